theorem dX2_weaken_0 : decode cX2_weaken 0 = .ok (.iconst 0, 1) := by decide +kernel
theorem dX2_weaken_1 : decode cX2_weaken 1 = .ok (.istore_n 2, 1) := by decide +kernel
theorem dX2_weaken_2 : decode cX2_weaken 2 = .ok (.iload_n 2, 1) := by decide +kernel
theorem dX2_weaken_3 : decode cX2_weaken 3 = .ok (.bipush 12, 2) := by decide +kernel
theorem dX2_weaken_5 : decode cX2_weaken 5 = .ok (.if_icmp .ge 27, 3) := by decide +kernel
theorem dX2_weaken_8 : decode cX2_weaken 8 = .ok (.aload_n 0, 1) := by decide +kernel
theorem dX2_weaken_9 : decode cX2_weaken 9 = .ok (.getfield 28, 3) := by decide +kernel
theorem dX2_weaken_12 : decode cX2_weaken 12 = .ok (.iload_n 2, 1) := by decide +kernel
theorem dX2_weaken_13 : decode cX2_weaken 13 = .ok (.iconst 0, 1) := by decide +kernel
theorem dX2_weaken_14 : decode cX2_weaken 14 = .ok (.aload_n 0, 1) := by decide +kernel
theorem dX2_weaken_15 : decode cX2_weaken 15 = .ok (.getfield 28, 3) := by decide +kernel
theorem dX2_weaken_18 : decode cX2_weaken 18 = .ok (.iload_n 2, 1) := by decide +kernel
theorem dX2_weaken_19 : decode cX2_weaken 19 = .ok (.iaload, 1) := by decide +kernel
theorem dX2_weaken_20 : decode cX2_weaken 20 = .ok (.iload_n 1, 1) := by decide +kernel
theorem dX2_weaken_21 : decode cX2_weaken 21 = .ok (.isub, 1) := by decide +kernel
theorem dX2_weaken_22 : decode cX2_weaken 22 = .ok (.invokestatic 68, 3) := by decide +kernel
theorem dX2_weaken_25 : decode cX2_weaken 25 = .ok (.iastore, 1) := by decide +kernel
theorem dX2_weaken_26 : decode cX2_weaken 26 = .ok (.iinc 2 1, 3) := by decide +kernel
theorem dX2_weaken_29 : decode cX2_weaken 29 = .ok (.goto (-27), 3) := by decide +kernel
theorem dX2_weaken_32 : decode cX2_weaken 32 = .ok (.aload_n 0, 1) := by decide +kernel
theorem dX2_weaken_33 : decode cX2_weaken 33 = .ok (.dup, 1) := by decide +kernel
theorem dX2_weaken_34 : decode cX2_weaken 34 = .ok (.getfield 61, 3) := by decide +kernel
theorem dX2_weaken_37 : decode cX2_weaken 37 = .ok (.iconst 1, 1) := by decide +kernel
theorem dX2_weaken_38 : decode cX2_weaken 38 = .ok (.iadd, 1) := by decide +kernel
theorem dX2_weaken_39 : decode cX2_weaken 39 = .ok (.putfield 61, 3) := by decide +kernel
theorem dX2_weaken_42 : decode cX2_weaken 42 = .ok (.return_, 1) := by decide +kernel
set_option maxRecDepth 20000 in
theorem ggX5_ahead_X8_has : GoodIn wsX5_ahead wsX8_has := goodIn_r _ [6] rfl rfl
set_option maxRecDepth 20000 in
theorem gX5_ahead_X8_has_n63 : GoodIn wsX5_ahead (wsX8_has) := ggX5_ahead_X8_has
theorem dX5_ahead_0 : decode cX5_ahead 0 = .ok (.iconst 0, 1) := by decide +kernel
theorem dX5_ahead_1 : decode cX5_ahead 1 = .ok (.istore_n 3, 1) := by decide +kernel
theorem dX5_ahead_2 : decode cX5_ahead 2 = .ok (.iconst 0, 1) := by decide +kernel
theorem dX5_ahead_3 : decode cX5_ahead 3 = .ok (.istore 4, 2) := by decide +kernel
theorem dX5_ahead_5 : decode cX5_ahead 5 = .ok (.iload 4, 2) := by decide +kernel
theorem dX5_ahead_7 : decode cX5_ahead 7 = .ok (.aload_n 0, 1) := by decide +kernel
theorem dX5_ahead_8 : decode cX5_ahead 8 = .ok (.getfield 44, 3) := by decide +kernel
theorem dX5_ahead_11 : decode cX5_ahead 11 = .ok (.if_icmp .ge 44, 3) := by decide +kernel
theorem dX5_ahead_14 : decode cX5_ahead 14 = .ok (.iload_n 2, 1) := by decide +kernel
theorem dX5_ahead_15 : decode cX5_ahead 15 = .ok (.iload 4, 2) := by decide +kernel
theorem dX5_ahead_17 : decode cX5_ahead 17 = .ok (.invokestatic 63, 3) := by decide +kernel
theorem dX5_ahead_20 : decode cX5_ahead 20 = .ok (.ifCond .eq 29, 3) := by decide +kernel
theorem dX5_ahead_23 : decode cX5_ahead 23 = .ok (.iload_n 1, 1) := by decide +kernel
theorem dX5_ahead_24 : decode cX5_ahead 24 = .ok (.aload_n 0, 1) := by decide +kernel
theorem dX5_ahead_25 : decode cX5_ahead 25 = .ok (.getfield 21, 3) := by decide +kernel
theorem dX5_ahead_28 : decode cX5_ahead 28 = .ok (.iload 4, 2) := by decide +kernel
theorem dX5_ahead_30 : decode cX5_ahead 30 = .ok (.iaload, 1) := by decide +kernel
theorem dX5_ahead_31 : decode cX5_ahead 31 = .ok (.invokestatic 63, 3) := by decide +kernel
theorem dX5_ahead_34 : decode cX5_ahead 34 = .ok (.ifCond .eq 15, 3) := by decide +kernel
theorem dX5_ahead_37 : decode cX5_ahead 37 = .ok (.iload_n 3, 1) := by decide +kernel
theorem dX5_ahead_38 : decode cX5_ahead 38 = .ok (.iconst 1, 1) := by decide +kernel
theorem dX5_ahead_39 : decode cX5_ahead 39 = .ok (.aload_n 0, 1) := by decide +kernel
theorem dX5_ahead_40 : decode cX5_ahead 40 = .ok (.getfield 24, 3) := by decide +kernel
theorem dX5_ahead_43 : decode cX5_ahead 43 = .ok (.iload 4, 2) := by decide +kernel
theorem dX5_ahead_45 : decode cX5_ahead 45 = .ok (.iaload, 1) := by decide +kernel
theorem dX5_ahead_46 : decode cX5_ahead 46 = .ok (.ishl, 1) := by decide +kernel
theorem dX5_ahead_47 : decode cX5_ahead 47 = .ok (.ior, 1) := by decide +kernel
theorem dX5_ahead_48 : decode cX5_ahead 48 = .ok (.istore_n 3, 1) := by decide +kernel
theorem dX5_ahead_49 : decode cX5_ahead 49 = .ok (.iinc 4 1, 3) := by decide +kernel
theorem dX5_ahead_52 : decode cX5_ahead 52 = .ok (.goto (-47), 3) := by decide +kernel
theorem dX5_ahead_55 : decode cX5_ahead 55 = .ok (.iload_n 3, 1) := by decide +kernel
theorem dX5_ahead_56 : decode cX5_ahead 56 = .ok (.ireturn, 1) := by decide +kernel
set_option maxRecDepth 20000 in
theorem ggX8_shock_X8_look : GoodIn wsX8_shock wsX8_look := goodIn_r _ [7, 1, 8, 9, 10, 11, 6, 12, 13, 14, 15, 16, 17, 18, 19, 20, 21, 22, 23, 24, 25, 26, 27, 28, 29, 30, 31, 32, 33, 34, 35, 36, 37, 38, 39, 40, 138, 139, 140, 141, 142, 143, 144, 145, 146, 147, 148, 149, 150, 156, 157, 158, 159, 160, 161, 162, 163, 164, 165, 166, 167, 168, 169, 170, 171, 172, 173, 174, 175, 176, 177, 178, 179, 180, 181, 151, 152, 153, 154, 155] rfl rfl
set_option maxRecDepth 20000 in
theorem gX8_shock_X8_look : GoodIn wsX8_shock (wsV RX8 148 RX8 yX8_look wsX8_look) := goodIn_app (goodIn_of _ (by decide +kernel)) ggX8_shock_X8_look
set_option maxRecDepth 20000 in
theorem ggX8_shock_X2_weaken : GoodIn wsX8_shock wsX2_weaken := goodIn_r _ [44, 33, 45, 46, 47, 48, 40, 160, 161, 162, 163, 164, 165, 166, 167, 168, 169] rfl rfl
set_option maxRecDepth 20000 in
theorem gX8_shock_X2_weaken : GoodIn wsX8_shock (wsV RX8 254 RX2 yX2_weaken wsX2_weaken) := goodIn_app (goodIn_of _ (by decide +kernel)) ggX8_shock_X2_weaken
set_option maxRecDepth 20000 in
theorem ggX8_shock_X8_now : GoodIn wsX8_shock wsX8_now := goodIn_r _ [12, 13, 14, 15, 16, 17, 18, 19, 20, 138, 139, 140, 141, 142, 143, 144, 145, 146, 147, 148, 149, 150, 156, 157, 158, 159] rfl rfl
set_option maxRecDepth 20000 in
theorem gX8_shock_X8_now : GoodIn wsX8_shock (wsV RX8 88 RX8 yX8_now wsX8_now) := goodIn_app (goodIn_of _ (by decide +kernel)) ggX8_shock_X8_now
set_option maxRecDepth 20000 in
theorem ggX8_shock_X8_claimsWith : GoodIn wsX8_shock wsX8_claimsWith := goodIn_r _ [52, 1, 8, 53, 54, 55, 24, 56, 29, 26, 57, 58, 59, 60, 61, 33, 62, 63, 6, 64, 65, 66, 67, 68, 69, 70, 71, 72, 73, 74, 75, 40, 39, 31, 76, 77, 47, 78, 45, 46, 48, 79, 80, 81, 82, 83, 84, 85, 86, 87, 88, 89, 90, 91, 92, 93, 94, 95, 96, 97, 98, 99, 100, 101, 102, 103, 104, 105, 106, 107, 108, 109, 110, 111, 112, 113, 114, 115, 116, 117, 118, 119, 120, 121, 122, 123, 124, 125, 126, 127, 128, 129, 130, 131, 132, 133, 134, 135, 136, 137, 138, 139, 140, 141, 142, 143, 144, 145, 146, 147, 148, 149, 150, 160, 161, 162, 163, 164, 165, 166, 167, 168, 169, 170, 171, 172, 173, 174, 175, 176, 177, 178, 179, 180, 181, 182, 183, 184, 185, 186, 187] rfl rfl
set_option maxRecDepth 20000 in
theorem gX8_shock_X8_claimsWith : GoodIn wsX8_shock (wsV RX8 251 RX8 yX8_claimsWith wsX8_claimsWith) := goodIn_app (goodIn_of _ (by decide +kernel)) ggX8_shock_X8_claimsWith
theorem dX8_shock_0 : decode cX8_shock 0 = .ok (.iload_n 1, 1) := by decide +kernel
theorem dX8_shock_1 : decode cX8_shock 1 = .ok (.ifCond .lt 9, 3) := by decide +kernel
theorem dX8_shock_4 : decode cX8_shock 4 = .ok (.iload_n 1, 1) := by decide +kernel
theorem dX8_shock_5 : decode cX8_shock 5 = .ok (.bipush 20, 2) := by decide +kernel
theorem dX8_shock_7 : decode cX8_shock 7 = .ok (.if_icmp .le 5, 3) := by decide +kernel
theorem dX8_shock_10 : decode cX8_shock 10 = .ok (.iconst (-1), 1) := by decide +kernel
theorem dX8_shock_11 : decode cX8_shock 11 = .ok (.ireturn, 1) := by decide +kernel
theorem dX8_shock_12 : decode cX8_shock 12 = .ok (.aload_n 0, 1) := by decide +kernel
theorem dX8_shock_13 : decode cX8_shock 13 = .ok (.invokevirtual 148, 3) := by decide +kernel
theorem dX8_shock_16 : decode cX8_shock 16 = .ok (.aload_n 0, 1) := by decide +kernel
theorem dX8_shock_17 : decode cX8_shock 17 = .ok (.getfield 44, 3) := by decide +kernel
theorem dX8_shock_20 : decode cX8_shock 20 = .ok (.iload_n 1, 1) := by decide +kernel
theorem dX8_shock_21 : decode cX8_shock 21 = .ok (.invokevirtual 254, 3) := by decide +kernel
theorem dX8_shock_24 : decode cX8_shock 24 = .ok (.aload_n 0, 1) := by decide +kernel
theorem dX8_shock_25 : decode cX8_shock 25 = .ok (.aload_n 0, 1) := by decide +kernel
theorem dX8_shock_26 : decode cX8_shock 26 = .ok (.invokevirtual 88, 3) := by decide +kernel
theorem dX8_shock_29 : decode cX8_shock 29 = .ok (.getfield 145, 3) := by decide +kernel
theorem dX8_shock_32 : decode cX8_shock 32 = .ok (.invokevirtual 251, 3) := by decide +kernel
theorem dX8_shock_35 : decode cX8_shock 35 = .ok (.ireturn, 1) := by decide +kernel
set_option maxRecDepth 20000 in
theorem ggX8_mend_X5_isClaim : GoodIn wsX8_mend wsX5_isClaim := goodIn_r _ [7, 8, 9, 10, 11, 6, 12, 13, 14, 15, 16, 171, 172, 173, 174, 175, 176, 177, 178, 179, 180, 181, 182] rfl rfl
set_option maxRecDepth 20000 in
theorem gX8_mend_X5_isClaim : GoodIn wsX8_mend (wsV RX8 244 RX5 yX5_isClaim wsX5_isClaim) := goodIn_app (goodIn_of _ (by decide +kernel)) ggX8_mend_X5_isClaim
set_option maxRecDepth 20000 in
theorem ggX8_mend_X8_isZeroOrOne : GoodIn wsX8_mend wsX8_isZeroOrOne := goodIn_r _ [19] rfl rfl
set_option maxRecDepth 20000 in
theorem gX8_mend_X8_isZeroOrOne : GoodIn wsX8_mend (va_wsS RX8 234 yX8_isZeroOrOne wsX8_isZeroOrOne) := goodIn_app (goodIn_of _ (by decide +kernel)) ggX8_mend_X8_isZeroOrOne
set_option maxRecDepth 20000 in
theorem ggX8_mend_X8_look : GoodIn wsX8_mend wsX8_look := goodIn_r _ [23, 24, 1, 25, 26, 27, 15, 28, 29, 30, 31, 32, 33, 34, 35, 36, 37, 38, 39, 40, 41, 42, 43, 44, 45, 46, 47, 48, 49, 50, 51, 52, 53, 54, 55, 56, 153, 154, 155, 156, 157, 158, 159, 160, 161, 162, 163, 164, 165, 183, 184, 185, 186, 187, 188, 189, 190, 191, 192, 193, 194, 195, 196, 171, 172, 173, 174, 175, 176, 177, 178, 179, 180, 181, 182, 166, 167, 168, 169, 170] rfl rfl
set_option maxRecDepth 20000 in
theorem gX8_mend_X8_look : GoodIn wsX8_mend (wsV RX8 148 RX8 yX8_look wsX8_look) := goodIn_app (goodIn_of _ (by decide +kernel)) ggX8_mend_X8_look
set_option maxRecDepth 20000 in
theorem ggX8_mend_X8_now : GoodIn wsX8_mend wsX8_now := goodIn_r _ [28, 29, 30, 31, 32, 33, 34, 35, 36, 153, 154, 155, 156, 157, 158, 159, 160, 161, 162, 163, 164, 165, 183, 184, 185, 186] rfl rfl
set_option maxRecDepth 20000 in
theorem gX8_mend_X8_now : GoodIn wsX8_mend (wsV RX8 88 RX8 yX8_now wsX8_now) := goodIn_app (goodIn_of _ (by decide +kernel)) ggX8_mend_X8_now
set_option maxRecDepth 20000 in
theorem ggX8_mend_X5_allStrands : GoodIn wsX8_mend wsX5_allStrands := goodIn_r _ [60, 61, 171, 172, 173, 174, 175, 176, 177, 178, 179, 180, 181, 182] rfl rfl
set_option maxRecDepth 20000 in
theorem gX8_mend_X5_allStrands : GoodIn wsX8_mend (wsV RX8 241 RX5 yX5_allStrands wsX5_allStrands) := goodIn_app (goodIn_of _ (by decide +kernel)) ggX8_mend_X5_allStrands
set_option maxRecDepth 20000 in
theorem ggX8_mend_X8_fewest : GoodIn wsX8_mend wsX8_fewest := goodIn_r _ [65, 24, 66, 67, 68, 69, 70, 71, 72, 73, 74, 75, 40, 76, 45, 42, 77, 78, 79, 80, 81, 49, 82, 14, 15, 16, 83, 84, 85, 86, 87, 88, 89, 90, 91, 92, 93, 56, 55, 47, 94, 95, 96, 97, 98, 99, 100, 101, 102, 103, 104, 105, 106, 107, 108, 109, 110, 111, 112, 113, 114, 115, 116, 117, 118, 119, 120, 121, 122, 123, 124, 125, 126, 127, 128, 129, 130, 131, 132, 133, 134, 135, 136, 137, 138, 139, 140, 141, 142, 143, 6, 144, 13, 8, 145, 146, 147, 148, 149, 153, 154, 155, 156, 157, 158, 159, 160, 161, 162, 163, 164, 165, 187, 188, 189, 190, 191, 192, 193, 194, 195, 196, 171, 172, 173, 174, 175, 176, 177, 178, 179, 180, 181, 182, 197, 198, 199, 200, 201, 202] rfl rfl
set_option maxRecDepth 20000 in
theorem gX8_mend_X8_fewest : GoodIn wsX8_mend (wsV RX8 263 RX8 yX8_fewest wsX8_fewest) := goodIn_app (goodIn_of _ (by decide +kernel)) ggX8_mend_X8_fewest
set_option maxRecDepth 20000 in
theorem ggX8_mend_X8_sizeOrSet : GoodIn wsX8_mend wsX8_sizeOrSet := goodIn_r _ [152, 66, 67, 68, 69, 70, 71, 72] rfl rfl
set_option maxRecDepth 20000 in
theorem gX8_mend_X8_sizeOrSet : GoodIn wsX8_mend (va_wsS RX8 267 yX8_sizeOrSet wsX8_sizeOrSet) := goodIn_app (goodIn_of _ (by decide +kernel)) ggX8_mend_X8_sizeOrSet
theorem dX8_mend_0 : decode cX8_mend 0 = .ok (.aload_n 0, 1) := by decide +kernel
theorem dX8_mend_1 : decode cX8_mend 1 = .ok (.getfield 19, 3) := by decide +kernel
theorem dX8_mend_4 : decode cX8_mend 4 = .ok (.iload_n 1, 1) := by decide +kernel
theorem dX8_mend_5 : decode cX8_mend 5 = .ok (.invokevirtual 244, 3) := by decide +kernel
theorem dX8_mend_8 : decode cX8_mend 8 = .ok (.ifCond .eq 10, 3) := by decide +kernel
theorem dX8_mend_11 : decode cX8_mend 11 = .ok (.iload_n 2, 1) := by decide +kernel
theorem dX8_mend_12 : decode cX8_mend 12 = .ok (.invokestatic 234, 3) := by decide +kernel
theorem dX8_mend_15 : decode cX8_mend 15 = .ok (.ifCond .ne 5, 3) := by decide +kernel
theorem dX8_mend_18 : decode cX8_mend 18 = .ok (.iconst (-1), 1) := by decide +kernel
theorem dX8_mend_19 : decode cX8_mend 19 = .ok (.ireturn, 1) := by decide +kernel
theorem dX8_mend_20 : decode cX8_mend 20 = .ok (.aload_n 0, 1) := by decide +kernel
theorem dX8_mend_21 : decode cX8_mend 21 = .ok (.invokevirtual 148, 3) := by decide +kernel
theorem dX8_mend_24 : decode cX8_mend 24 = .ok (.aload_n 0, 1) := by decide +kernel
theorem dX8_mend_25 : decode cX8_mend 25 = .ok (.invokevirtual 88, 3) := by decide +kernel
theorem dX8_mend_28 : decode cX8_mend 28 = .ok (.getfield 145, 3) := by decide +kernel
theorem dX8_mend_31 : decode cX8_mend 31 = .ok (.istore_n 3, 1) := by decide +kernel
theorem dX8_mend_32 : decode cX8_mend 32 = .ok (.aload_n 0, 1) := by decide +kernel
theorem dX8_mend_33 : decode cX8_mend 33 = .ok (.iload_n 1, 1) := by decide +kernel
theorem dX8_mend_34 : decode cX8_mend 34 = .ok (.aload_n 0, 1) := by decide +kernel
theorem dX8_mend_35 : decode cX8_mend 35 = .ok (.getfield 19, 3) := by decide +kernel
theorem dX8_mend_38 : decode cX8_mend 38 = .ok (.invokevirtual 241, 3) := by decide +kernel
theorem dX8_mend_41 : decode cX8_mend 41 = .ok (.iload_n 3, 1) := by decide +kernel
theorem dX8_mend_42 : decode cX8_mend 42 = .ok (.iconst (-1), 1) := by decide +kernel
theorem dX8_mend_43 : decode cX8_mend 43 = .ok (.ixor, 1) := by decide +kernel
theorem dX8_mend_44 : decode cX8_mend 44 = .ok (.iand, 1) := by decide +kernel
theorem dX8_mend_45 : decode cX8_mend 45 = .ok (.iload_n 3, 1) := by decide +kernel
theorem dX8_mend_46 : decode cX8_mend 46 = .ok (.iconst 1, 1) := by decide +kernel
theorem dX8_mend_47 : decode cX8_mend 47 = .ok (.invokevirtual 263, 3) := by decide +kernel
theorem dX8_mend_50 : decode cX8_mend 50 = .ok (.iload_n 2, 1) := by decide +kernel
theorem dX8_mend_51 : decode cX8_mend 51 = .ok (.invokestatic 267, 3) := by decide +kernel
theorem dX8_mend_54 : decode cX8_mend 54 = .ok (.ireturn, 1) := by decide +kernel
set_option maxRecDepth 20000 in
theorem ggX8_perils_X8_look : GoodIn wsX8_perils wsX8_look := goodIn_r _ [7, 8, 2, 9, 10, 11, 6, 12, 13, 14, 15, 16, 17, 18, 19, 20, 21, 22, 23, 24, 25, 26, 27, 28, 29, 30, 31, 32, 33, 34, 35, 36, 37, 38, 39, 40, 150, 151, 152, 153, 154, 155, 156, 157, 158, 159, 160, 161, 162, 163, 164, 165, 166, 167, 168, 169, 170, 171, 172, 173, 174, 175, 176, 177, 178, 179, 180, 181, 182, 183, 184, 185, 186, 187, 188, 145, 146, 147, 148, 149] rfl rfl
set_option maxRecDepth 20000 in
theorem gX8_perils_X8_look : GoodIn wsX8_perils (wsV RX8 148 RX8 yX8_look wsX8_look) := goodIn_app (goodIn_of _ (by decide +kernel)) ggX8_perils_X8_look
set_option maxRecDepth 20000 in
theorem ggX8_perils_X8_now : GoodIn wsX8_perils wsX8_now := goodIn_r _ [12, 13, 14, 15, 16, 17, 18, 19, 20, 150, 151, 152, 153, 154, 155, 156, 157, 158, 159, 160, 161, 162, 163, 164, 165, 166] rfl rfl
set_option maxRecDepth 20000 in
theorem gX8_perils_X8_now : GoodIn wsX8_perils (wsV RX8 88 RX8 yX8_now wsX8_now) := goodIn_app (goodIn_of _ (by decide +kernel)) ggX8_perils_X8_now
set_option maxRecDepth 20000 in
theorem ggX8_perils_X8_isZeroOrOne : GoodIn wsX8_perils wsX8_isZeroOrOne := goodIn_r _ [43] rfl rfl
set_option maxRecDepth 20000 in
theorem gX8_perils_X8_isZeroOrOne : GoodIn wsX8_perils (va_wsS RX8 234 yX8_isZeroOrOne wsX8_isZeroOrOne) := goodIn_app (goodIn_of _ (by decide +kernel)) ggX8_perils_X8_isZeroOrOne
set_option maxRecDepth 20000 in
theorem ggX8_perils_X5_isClaim : GoodIn wsX8_perils wsX5_isClaim := goodIn_r _ [48, 49, 50, 51, 52, 47, 53, 54, 55, 6, 56, 177, 178, 179, 180, 181, 182, 183, 184, 185, 186, 187, 188] rfl rfl
set_option maxRecDepth 20000 in
theorem gX8_perils_X5_isClaim : GoodIn wsX8_perils (wsV RX8 244 RX5 yX5_isClaim wsX5_isClaim) := goodIn_app (goodIn_of _ (by decide +kernel)) ggX8_perils_X5_isClaim
set_option maxRecDepth 20000 in
theorem ggX8_perils_X8_isUp : GoodIn wsX8_perils wsX8_isUp := goodIn_r _ [60, 8, 61, 62, 63, 24, 64, 29, 26, 65, 66, 67, 68, 69, 33, 70, 55, 6, 56, 71, 72, 73, 74, 75, 76, 77, 78, 79, 80, 81, 40, 39, 31, 82, 83, 84, 85, 86, 87, 88, 89, 90, 91, 92, 93, 94, 95, 96, 97, 98, 99, 100, 101, 102, 103, 104, 105, 106, 107, 108, 109, 110, 111, 112, 113, 114, 115, 116, 117, 118, 119, 120, 121, 122, 123, 124, 125, 126, 127, 128, 129, 130, 131, 132, 133, 134, 135, 136, 137, 47, 138, 54, 49, 139, 140, 141, 142, 143, 150, 151, 152, 153, 154, 155, 156, 157, 158, 159, 160, 161, 162, 167, 168, 169, 170, 171, 172, 173, 174, 175, 176, 177, 178, 179, 180, 181, 182, 183, 184, 185, 186, 187, 188, 189, 190, 191, 192, 193, 194] rfl rfl
set_option maxRecDepth 20000 in
theorem gX8_perils_X8_isUp : GoodIn wsX8_perils (wsV RX8 260 RX8 yX8_isUp wsX8_isUp) := goodIn_app (goodIn_of _ (by decide +kernel)) ggX8_perils_X8_isUp
set_option maxRecDepth 20000 in
theorem ggX8_perils_J6_bitCount_0f7a4 : GoodIn wsX8_perils wsJ6_bitCount_0f7a4 := goodIn_r _ [92, 93, 94, 95] rfl rfl
set_option maxRecDepth 20000 in
theorem gX8_perils_J6_bitCount_0f7a4 : GoodIn wsX8_perils (va_wsS RX8 274 yJ6_bitCount_0f7a4 wsJ6_bitCount_0f7a4) := goodIn_app (goodIn_of _ (by decide +kernel)) ggX8_perils_J6_bitCount_0f7a4
theorem dX8_perils_0 : decode cX8_perils 0 = .ok (.aload_n 0, 1) := by decide +kernel
theorem dX8_perils_1 : decode cX8_perils 1 = .ok (.invokevirtual 148, 3) := by decide +kernel
theorem dX8_perils_4 : decode cX8_perils 4 = .ok (.aload_n 0, 1) := by decide +kernel
theorem dX8_perils_5 : decode cX8_perils 5 = .ok (.invokevirtual 88, 3) := by decide +kernel
theorem dX8_perils_8 : decode cX8_perils 8 = .ok (.getfield 145, 3) := by decide +kernel
theorem dX8_perils_11 : decode cX8_perils 11 = .ok (.istore_n 3, 1) := by decide +kernel
theorem dX8_perils_12 : decode cX8_perils 12 = .ok (.iload_n 2, 1) := by decide +kernel
theorem dX8_perils_13 : decode cX8_perils 13 = .ok (.invokestatic 234, 3) := by decide +kernel
theorem dX8_perils_16 : decode cX8_perils 16 = .ok (.ifCond .eq 23, 3) := by decide +kernel
theorem dX8_perils_19 : decode cX8_perils 19 = .ok (.aload_n 0, 1) := by decide +kernel
theorem dX8_perils_20 : decode cX8_perils 20 = .ok (.getfield 19, 3) := by decide +kernel
theorem dX8_perils_23 : decode cX8_perils 23 = .ok (.iload_n 1, 1) := by decide +kernel
theorem dX8_perils_24 : decode cX8_perils 24 = .ok (.invokevirtual 244, 3) := by decide +kernel
theorem dX8_perils_27 : decode cX8_perils 27 = .ok (.ifCond .eq 12, 3) := by decide +kernel
theorem dX8_perils_30 : decode cX8_perils 30 = .ok (.aload_n 0, 1) := by decide +kernel
theorem dX8_perils_31 : decode cX8_perils 31 = .ok (.iload_n 1, 1) := by decide +kernel
theorem dX8_perils_32 : decode cX8_perils 32 = .ok (.iload_n 3, 1) := by decide +kernel
theorem dX8_perils_33 : decode cX8_perils 33 = .ok (.invokevirtual 260, 3) := by decide +kernel
theorem dX8_perils_36 : decode cX8_perils 36 = .ok (.ifCond .ne 5, 3) := by decide +kernel
theorem dX8_perils_39 : decode cX8_perils 39 = .ok (.iconst (-1), 1) := by decide +kernel
theorem dX8_perils_40 : decode cX8_perils 40 = .ok (.ireturn, 1) := by decide +kernel
theorem dX8_perils_41 : decode cX8_perils 41 = .ok (.iconst 0, 1) := by decide +kernel
theorem dX8_perils_42 : decode cX8_perils 42 = .ok (.istore 4, 2) := by decide +kernel
theorem dX8_perils_44 : decode cX8_perils 44 = .ok (.iconst 0, 1) := by decide +kernel
theorem dX8_perils_45 : decode cX8_perils 45 = .ok (.istore 5, 2) := by decide +kernel
theorem dX8_perils_47 : decode cX8_perils 47 = .ok (.iload 5, 2) := by decide +kernel
theorem dX8_perils_49 : decode cX8_perils 49 = .ok (.iload_n 3, 1) := by decide +kernel
theorem dX8_perils_50 : decode cX8_perils 50 = .ok (.if_icmp .gt 44, 3) := by decide +kernel
theorem dX8_perils_53 : decode cX8_perils 53 = .ok (.iload 5, 2) := by decide +kernel
theorem dX8_perils_55 : decode cX8_perils 55 = .ok (.iload_n 3, 1) := by decide +kernel
theorem dX8_perils_56 : decode cX8_perils 56 = .ok (.iconst (-1), 1) := by decide +kernel
theorem dX8_perils_57 : decode cX8_perils 57 = .ok (.ixor, 1) := by decide +kernel
theorem dX8_perils_58 : decode cX8_perils 58 = .ok (.iand, 1) := by decide +kernel
theorem dX8_perils_59 : decode cX8_perils 59 = .ok (.ifCond .ne 29, 3) := by decide +kernel
theorem dX8_perils_62 : decode cX8_perils 62 = .ok (.iload 5, 2) := by decide +kernel
theorem dX8_perils_64 : decode cX8_perils 64 = .ok (.invokestatic 274, 3) := by decide +kernel
theorem dX8_perils_67 : decode cX8_perils 67 = .ok (.iload_n 2, 1) := by decide +kernel
theorem dX8_perils_68 : decode cX8_perils 68 = .ok (.iconst 1, 1) := by decide +kernel
theorem dX8_perils_69 : decode cX8_perils 69 = .ok (.iadd, 1) := by decide +kernel
theorem dX8_perils_70 : decode cX8_perils 70 = .ok (.if_icmp .ne 18, 3) := by decide +kernel
theorem dX8_perils_73 : decode cX8_perils 73 = .ok (.aload_n 0, 1) := by decide +kernel
theorem dX8_perils_74 : decode cX8_perils 74 = .ok (.iload_n 1, 1) := by decide +kernel
theorem dX8_perils_75 : decode cX8_perils 75 = .ok (.iload_n 3, 1) := by decide +kernel
theorem dX8_perils_76 : decode cX8_perils 76 = .ok (.iload 5, 2) := by decide +kernel
theorem dX8_perils_78 : decode cX8_perils 78 = .ok (.ixor, 1) := by decide +kernel
theorem dX8_perils_79 : decode cX8_perils 79 = .ok (.invokevirtual 260, 3) := by decide +kernel
theorem dX8_perils_82 : decode cX8_perils 82 = .ok (.ifCond .ne 6, 3) := by decide +kernel
theorem dX8_perils_85 : decode cX8_perils 85 = .ok (.iinc 4 1, 3) := by decide +kernel
theorem dX8_perils_88 : decode cX8_perils 88 = .ok (.iinc 5 1, 3) := by decide +kernel
theorem dX8_perils_91 : decode cX8_perils 91 = .ok (.goto (-44), 3) := by decide +kernel
theorem dX8_perils_94 : decode cX8_perils 94 = .ok (.iload 4, 2) := by decide +kernel
theorem dX8_perils_96 : decode cX8_perils 96 = .ok (.ireturn, 1) := by decide +kernel
set_option maxRecDepth 20000 in
theorem ggX8_brings_X8_isTied : GoodIn wsX8_brings wsX8_isTied := goodIn_r _ [7, 8, 2, 9, 10, 11, 12, 13, 14, 15, 16, 17, 6, 18, 19, 20, 21, 22, 23, 24, 25, 26, 27, 28, 29, 142, 143, 144, 145, 146, 147, 148, 149, 150, 151, 152, 153, 154, 155, 156, 157, 158, 159, 160, 161, 162, 163, 164, 165, 166, 167, 168, 169, 170, 171, 172, 173, 174, 175] rfl rfl
set_option maxRecDepth 20000 in
theorem gX8_brings_X8_isTied : GoodIn wsX8_brings (wsV RX8 190 RX8 yX8_isTied wsX8_isTied) := goodIn_app (goodIn_of _ (by decide +kernel)) ggX8_brings_X8_isTied
set_option maxRecDepth 20000 in
theorem ggX8_brings_X8_standingNow : GoodIn wsX8_brings wsX8_standingNow := goodIn_r _ [33, 1, 2, 34, 35, 36, 6, 37, 8, 15, 16, 17, 18, 19, 20, 21, 22, 23, 24, 25, 26, 38, 39, 40, 41, 42, 43, 44, 45, 46, 47, 48, 49, 50, 51, 52, 53, 54, 55, 56, 57, 58, 59, 60, 61, 62, 63, 64, 65, 66, 67, 28, 29, 68, 69, 70, 71, 72, 73, 74, 75, 76, 77, 78, 79, 80, 81, 82, 83, 84, 85, 86, 87, 88, 89, 90, 91, 92, 93, 94, 95, 96, 97, 98, 99, 100, 101, 102, 103, 104, 105, 106, 107, 108, 109, 110, 111, 112, 113, 114, 115, 116, 117, 118, 119, 120, 121, 122, 123, 124, 125, 126, 127, 128, 129, 130, 131, 132, 133, 134, 12, 135, 136, 137, 138, 139, 140, 141, 142, 143, 144, 145, 146, 147, 148, 149, 150, 151, 152, 153, 154, 155, 156, 157, 158, 159, 172, 173, 174, 175, 176, 177, 178, 179, 180, 181, 182, 183, 184, 185, 160, 161, 162, 163, 164, 165, 166, 167, 168, 169, 170, 171, 186, 187, 188, 189, 190, 191] rfl rfl
set_option maxRecDepth 20000 in
theorem gX8_brings_X8_standingNow : GoodIn wsX8_brings (wsV RX8 224 RX8 yX8_standingNow wsX8_standingNow) := goodIn_app (goodIn_of _ (by decide +kernel)) ggX8_brings_X8_standingNow
set_option maxRecDepth 20000 in
theorem ggX8_brings_X8_now : GoodIn wsX8_brings wsX8_now := goodIn_r _ [18, 19, 20, 21, 22, 23, 24, 25, 26, 142, 143, 144, 145, 146, 147, 148, 149, 150, 151, 152, 153, 154, 172, 173, 174, 175] rfl rfl
set_option maxRecDepth 20000 in
theorem gX8_brings_X8_now : GoodIn wsX8_brings (wsV RX8 88 RX8 yX8_now wsX8_now) := goodIn_app (goodIn_of _ (by decide +kernel)) ggX8_brings_X8_now
set_option maxRecDepth 20000 in
theorem ggX8_brings_X2_standing : GoodIn wsX8_brings wsX2_standing := goodIn_r _ [61, 46, 43, 62, 63, 64, 41, 65, 66, 50, 67, 28, 6, 29, 68, 69, 70, 71, 72, 73, 74, 75, 76, 77, 78, 57, 56, 48, 79, 80, 81, 82, 83, 84, 85, 86, 87, 88, 89, 90, 91, 92, 93, 94, 95, 96, 97, 98, 99, 100, 101, 102, 103, 104, 105, 106, 107, 108, 109, 110, 111, 112, 113, 114, 115, 116, 117, 118, 119, 120, 121, 122, 123, 124, 125, 126, 127, 128, 129, 130, 131, 132, 133, 134, 12, 135, 136, 137, 138, 139, 140, 141, 176, 177, 178, 179, 180, 181, 182, 183, 184, 185, 160, 161, 162, 163, 164, 165, 166, 167, 168, 169, 170, 171, 186, 187, 188, 189, 190, 191] rfl rfl
set_option maxRecDepth 20000 in
theorem gX8_brings_X2_standing : GoodIn wsX8_brings (wsV RX8 231 RX2 yX2_standing wsX2_standing) := goodIn_app (goodIn_of _ (by decide +kernel)) ggX8_brings_X2_standing
theorem dX8_brings_0 : decode cX8_brings 0 = .ok (.aload_n 0, 1) := by decide +kernel
theorem dX8_brings_1 : decode cX8_brings 1 = .ok (.iload_n 1, 1) := by decide +kernel
theorem dX8_brings_2 : decode cX8_brings 2 = .ok (.invokevirtual 190, 3) := by decide +kernel
theorem dX8_brings_5 : decode cX8_brings 5 = .ok (.ifCond .ne 5, 3) := by decide +kernel
theorem dX8_brings_8 : decode cX8_brings 8 = .ok (.iconst (-1), 1) := by decide +kernel
theorem dX8_brings_9 : decode cX8_brings 9 = .ok (.ireturn, 1) := by decide +kernel
theorem dX8_brings_10 : decode cX8_brings 10 = .ok (.aload_n 0, 1) := by decide +kernel
theorem dX8_brings_11 : decode cX8_brings 11 = .ok (.invokevirtual 224, 3) := by decide +kernel
theorem dX8_brings_14 : decode cX8_brings 14 = .ok (.aload_n 0, 1) := by decide +kernel
theorem dX8_brings_15 : decode cX8_brings 15 = .ok (.getfield 44, 3) := by decide +kernel
theorem dX8_brings_18 : decode cX8_brings 18 = .ok (.aload_n 0, 1) := by decide +kernel
theorem dX8_brings_19 : decode cX8_brings 19 = .ok (.invokevirtual 88, 3) := by decide +kernel
theorem dX8_brings_22 : decode cX8_brings 22 = .ok (.getfield 145, 3) := by decide +kernel
theorem dX8_brings_25 : decode cX8_brings 25 = .ok (.iconst 1, 1) := by decide +kernel
theorem dX8_brings_26 : decode cX8_brings 26 = .ok (.iload_n 1, 1) := by decide +kernel
theorem dX8_brings_27 : decode cX8_brings 27 = .ok (.ishl, 1) := by decide +kernel
theorem dX8_brings_28 : decode cX8_brings 28 = .ok (.ixor, 1) := by decide +kernel
theorem dX8_brings_29 : decode cX8_brings 29 = .ok (.invokevirtual 231, 3) := by decide +kernel
theorem dX8_brings_32 : decode cX8_brings 32 = .ok (.iconst (-1), 1) := by decide +kernel
theorem dX8_brings_33 : decode cX8_brings 33 = .ok (.ixor, 1) := by decide +kernel
theorem dX8_brings_34 : decode cX8_brings 34 = .ok (.iand, 1) := by decide +kernel
theorem dX8_brings_35 : decode cX8_brings 35 = .ok (.ireturn, 1) := by decide +kernel
set_option maxRecDepth 20000 in
theorem ggX8_gaps_X5_isClaim : GoodIn wsX8_gaps wsX5_isClaim := goodIn_r _ [9, 10, 11, 12, 13, 8, 14, 15, 16, 17, 18, 44, 45, 46, 47, 48, 49, 50, 51, 52, 53, 54, 55] rfl rfl
set_option maxRecDepth 20000 in
theorem gX8_gaps_X5_isClaim : GoodIn wsX8_gaps (wsV RX8 244 RX5 yX5_isClaim wsX5_isClaim) := goodIn_app (goodIn_of _ (by decide +kernel)) ggX8_gaps_X5_isClaim
set_option maxRecDepth 20000 in
theorem ggX8_gaps_X8_now : GoodIn wsX8_gaps wsX8_now := goodIn_r _ [22, 23, 24, 25, 26, 27, 28, 29, 30, 31, 32, 33, 34, 35, 36, 37, 38, 39, 40, 41, 42, 43, 61, 62, 63, 64] rfl rfl
set_option maxRecDepth 20000 in
theorem gX8_gaps_X8_now : GoodIn wsX8_gaps (wsV RX8 88 RX8 yX8_now wsX8_now) := goodIn_app (goodIn_of _ (by decide +kernel)) ggX8_gaps_X8_now
theorem dX8_gaps_0 : decode cX8_gaps 0 = .ok (.iconst 0, 1) := by decide +kernel
theorem dX8_gaps_1 : decode cX8_gaps 1 = .ok (.istore_n 1, 1) := by decide +kernel
theorem dX8_gaps_2 : decode cX8_gaps 2 = .ok (.iconst 0, 1) := by decide +kernel
theorem dX8_gaps_3 : decode cX8_gaps 3 = .ok (.istore_n 2, 1) := by decide +kernel
theorem dX8_gaps_4 : decode cX8_gaps 4 = .ok (.iload_n 2, 1) := by decide +kernel
theorem dX8_gaps_5 : decode cX8_gaps 5 = .ok (.aload_n 0, 1) := by decide +kernel
theorem dX8_gaps_6 : decode cX8_gaps 6 = .ok (.getfield 19, 3) := by decide +kernel
theorem dX8_gaps_9 : decode cX8_gaps 9 = .ok (.getfield 105, 3) := by decide +kernel
theorem dX8_gaps_12 : decode cX8_gaps 12 = .ok (.if_icmp .ge 46, 3) := by decide +kernel
theorem dX8_gaps_15 : decode cX8_gaps 15 = .ok (.aload_n 0, 1) := by decide +kernel
theorem dX8_gaps_16 : decode cX8_gaps 16 = .ok (.getfield 19, 3) := by decide +kernel
theorem dX8_gaps_19 : decode cX8_gaps 19 = .ok (.iload_n 2, 1) := by decide +kernel
theorem dX8_gaps_20 : decode cX8_gaps 20 = .ok (.invokevirtual 244, 3) := by decide +kernel
theorem dX8_gaps_23 : decode cX8_gaps 23 = .ok (.ifCond .eq 29, 3) := by decide +kernel
theorem dX8_gaps_26 : decode cX8_gaps 26 = .ok (.aload_n 0, 1) := by decide +kernel
theorem dX8_gaps_27 : decode cX8_gaps 27 = .ok (.getfield 19, 3) := by decide +kernel
theorem dX8_gaps_30 : decode cX8_gaps 30 = .ok (.getfield 127, 3) := by decide +kernel
theorem dX8_gaps_33 : decode cX8_gaps 33 = .ok (.iload_n 2, 1) := by decide +kernel
theorem dX8_gaps_34 : decode cX8_gaps 34 = .ok (.iaload, 1) := by decide +kernel
theorem dX8_gaps_35 : decode cX8_gaps 35 = .ok (.aload_n 0, 1) := by decide +kernel
theorem dX8_gaps_36 : decode cX8_gaps 36 = .ok (.invokevirtual 88, 3) := by decide +kernel
theorem dX8_gaps_39 : decode cX8_gaps 39 = .ok (.getfield 145, 3) := by decide +kernel
theorem dX8_gaps_42 : decode cX8_gaps 42 = .ok (.iand, 1) := by decide +kernel
theorem dX8_gaps_43 : decode cX8_gaps 43 = .ok (.ifCond .ne 9, 3) := by decide +kernel
theorem dX8_gaps_46 : decode cX8_gaps 46 = .ok (.iload_n 1, 1) := by decide +kernel
theorem dX8_gaps_47 : decode cX8_gaps 47 = .ok (.iconst 1, 1) := by decide +kernel
theorem dX8_gaps_48 : decode cX8_gaps 48 = .ok (.iload_n 2, 1) := by decide +kernel
theorem dX8_gaps_49 : decode cX8_gaps 49 = .ok (.ishl, 1) := by decide +kernel
theorem dX8_gaps_50 : decode cX8_gaps 50 = .ok (.ior, 1) := by decide +kernel
theorem dX8_gaps_51 : decode cX8_gaps 51 = .ok (.istore_n 1, 1) := by decide +kernel
theorem dX8_gaps_52 : decode cX8_gaps 52 = .ok (.iinc 2 1, 3) := by decide +kernel
theorem dX8_gaps_55 : decode cX8_gaps 55 = .ok (.goto (-51), 3) := by decide +kernel
theorem dX8_gaps_58 : decode cX8_gaps 58 = .ok (.iload_n 1, 1) := by decide +kernel
theorem dX8_gaps_59 : decode cX8_gaps 59 = .ok (.ireturn, 1) := by decide +kernel
set_option maxRecDepth 20000 in
theorem ggX8_best_X5_isClaim : GoodIn wsX8_best wsX5_isClaim := goodIn_r _ [11, 12, 13, 14, 15, 10, 16, 17, 18, 19, 20, 158, 159, 160, 161, 162, 163, 164, 165, 166, 167, 168, 169] rfl rfl
set_option maxRecDepth 20000 in
theorem gX8_best_X5_isClaim : GoodIn wsX8_best (wsV RX8 244 RX5 yX5_isClaim wsX5_isClaim) := goodIn_app (goodIn_of _ (by decide +kernel)) ggX8_best_X5_isClaim
set_option maxRecDepth 20000 in
theorem ggX8_best_X8_standingNow : GoodIn wsX8_best wsX8_standingNow := goodIn_r _ [24, 5, 25, 26, 27, 28, 19, 29, 1, 30, 31, 32, 33, 34, 35, 36, 37, 38, 39, 40, 41, 42, 43, 44, 45, 46, 47, 48, 49, 50, 51, 52, 53, 54, 55, 56, 57, 58, 59, 60, 61, 62, 63, 64, 65, 66, 67, 68, 69, 70, 71, 18, 20, 72, 73, 74, 75, 76, 77, 78, 79, 80, 81, 82, 83, 84, 85, 86, 87, 88, 89, 90, 91, 92, 93, 94, 95, 96, 97, 98, 99, 100, 101, 102, 103, 104, 105, 106, 107, 108, 109, 110, 111, 112, 113, 114, 115, 116, 117, 118, 119, 120, 121, 122, 123, 124, 125, 126, 127, 128, 129, 130, 131, 132, 133, 134, 135, 136, 137, 138, 10, 139, 17, 12, 140, 141, 142, 143, 145, 146, 147, 148, 149, 150, 151, 152, 153, 154, 155, 156, 157, 180, 181, 182, 183, 184, 185, 186, 187, 188, 170, 171, 172, 173, 174, 175, 176, 177, 178, 179, 158, 159, 160, 161, 162, 163, 164, 165, 166, 167, 168, 169, 189, 190, 191, 192, 193, 194] rfl rfl
set_option maxRecDepth 20000 in
theorem gX8_best_X8_standingNow : GoodIn wsX8_best (wsV RX8 224 RX8 yX8_standingNow wsX8_standingNow) := goodIn_app (goodIn_of _ (by decide +kernel)) ggX8_best_X8_standingNow
set_option maxRecDepth 20000 in
theorem ggX8_best_X8_has : GoodIn wsX8_best wsX8_has := goodIn_r _ [20] rfl rfl
set_option maxRecDepth 20000 in
theorem gX8_best_X8_has : GoodIn wsX8_best (va_wsS RX8 220 yX8_has wsX8_has) := goodIn_app (goodIn_of _ (by decide +kernel)) ggX8_best_X8_has
theorem dX8_best_0 : decode cX8_best 0 = .ok (.aload_n 0, 1) := by decide +kernel
theorem dX8_best_1 : decode cX8_best 1 = .ok (.getfield 19, 3) := by decide +kernel
theorem dX8_best_4 : decode cX8_best 4 = .ok (.iload_n 1, 1) := by decide +kernel
theorem dX8_best_5 : decode cX8_best 5 = .ok (.invokevirtual 244, 3) := by decide +kernel
theorem dX8_best_8 : decode cX8_best 8 = .ok (.ifCond .ne 5, 3) := by decide +kernel
theorem dX8_best_11 : decode cX8_best 11 = .ok (.iconst (-1), 1) := by decide +kernel
theorem dX8_best_12 : decode cX8_best 12 = .ok (.ireturn, 1) := by decide +kernel
theorem dX8_best_13 : decode cX8_best 13 = .ok (.aload_n 0, 1) := by decide +kernel
theorem dX8_best_14 : decode cX8_best 14 = .ok (.invokevirtual 224, 3) := by decide +kernel
theorem dX8_best_17 : decode cX8_best 17 = .ok (.istore_n 2, 1) := by decide +kernel
theorem dX8_best_18 : decode cX8_best 18 = .ok (.iconst (-1), 1) := by decide +kernel
theorem dX8_best_19 : decode cX8_best 19 = .ok (.istore_n 3, 1) := by decide +kernel
theorem dX8_best_20 : decode cX8_best 20 = .ok (.iconst 0, 1) := by decide +kernel
theorem dX8_best_21 : decode cX8_best 21 = .ok (.istore 4, 2) := by decide +kernel
theorem dX8_best_23 : decode cX8_best 23 = .ok (.iconst 0, 1) := by decide +kernel
theorem dX8_best_24 : decode cX8_best 24 = .ok (.istore 5, 2) := by decide +kernel
theorem dX8_best_26 : decode cX8_best 26 = .ok (.iload 5, 2) := by decide +kernel
theorem dX8_best_28 : decode cX8_best 28 = .ok (.aload_n 0, 1) := by decide +kernel
theorem dX8_best_29 : decode cX8_best 29 = .ok (.getfield 19, 3) := by decide +kernel
theorem dX8_best_32 : decode cX8_best 32 = .ok (.getfield 157, 3) := by decide +kernel
theorem dX8_best_35 : decode cX8_best 35 = .ok (.if_icmp .ge 73, 3) := by decide +kernel
theorem dX8_best_38 : decode cX8_best 38 = .ok (.aload_n 0, 1) := by decide +kernel
theorem dX8_best_39 : decode cX8_best 39 = .ok (.getfield 19, 3) := by decide +kernel
theorem dX8_best_42 : decode cX8_best 42 = .ok (.getfield 127, 3) := by decide +kernel
theorem dX8_best_45 : decode cX8_best 45 = .ok (.iload_n 1, 1) := by decide +kernel
theorem dX8_best_46 : decode cX8_best 46 = .ok (.iaload, 1) := by decide +kernel
theorem dX8_best_47 : decode cX8_best 47 = .ok (.iload 5, 2) := by decide +kernel
theorem dX8_best_49 : decode cX8_best 49 = .ok (.invokestatic 220, 3) := by decide +kernel
theorem dX8_best_52 : decode cX8_best 52 = .ok (.ifCond .eq 50, 3) := by decide +kernel
theorem dX8_best_55 : decode cX8_best 55 = .ok (.iload_n 2, 1) := by decide +kernel
theorem dX8_best_56 : decode cX8_best 56 = .ok (.aload_n 0, 1) := by decide +kernel
theorem dX8_best_57 : decode cX8_best 57 = .ok (.getfield 19, 3) := by decide +kernel
theorem dX8_best_60 : decode cX8_best 60 = .ok (.getfield 136, 3) := by decide +kernel
theorem dX8_best_63 : decode cX8_best 63 = .ok (.iload 5, 2) := by decide +kernel
theorem dX8_best_65 : decode cX8_best 65 = .ok (.iaload, 1) := by decide +kernel
theorem dX8_best_66 : decode cX8_best 66 = .ok (.invokestatic 220, 3) := by decide +kernel
theorem dX8_best_69 : decode cX8_best 69 = .ok (.ifCond .eq 33, 3) := by decide +kernel
theorem dX8_best_72 : decode cX8_best 72 = .ok (.aload_n 0, 1) := by decide +kernel
theorem dX8_best_73 : decode cX8_best 73 = .ok (.getfield 44, 3) := by decide +kernel
theorem dX8_best_76 : decode cX8_best 76 = .ok (.getfield 154, 3) := by decide +kernel
theorem dX8_best_79 : decode cX8_best 79 = .ok (.iload 5, 2) := by decide +kernel
theorem dX8_best_81 : decode cX8_best 81 = .ok (.iaload, 1) := by decide +kernel
theorem dX8_best_82 : decode cX8_best 82 = .ok (.iload 4, 2) := by decide +kernel
theorem dX8_best_84 : decode cX8_best 84 = .ok (.if_icmp .le 18, 3) := by decide +kernel
theorem dX8_best_87 : decode cX8_best 87 = .ok (.iload 5, 2) := by decide +kernel
theorem dX8_best_89 : decode cX8_best 89 = .ok (.istore_n 3, 1) := by decide +kernel
theorem dX8_best_90 : decode cX8_best 90 = .ok (.aload_n 0, 1) := by decide +kernel
theorem dX8_best_91 : decode cX8_best 91 = .ok (.getfield 44, 3) := by decide +kernel
theorem dX8_best_94 : decode cX8_best 94 = .ok (.getfield 154, 3) := by decide +kernel
theorem dX8_best_97 : decode cX8_best 97 = .ok (.iload 5, 2) := by decide +kernel
theorem dX8_best_99 : decode cX8_best 99 = .ok (.iaload, 1) := by decide +kernel
theorem dX8_best_100 : decode cX8_best 100 = .ok (.istore 4, 2) := by decide +kernel
theorem dX8_best_102 : decode cX8_best 102 = .ok (.iinc 5 1, 3) := by decide +kernel
theorem dX8_best_105 : decode cX8_best 105 = .ok (.goto (-79), 3) := by decide +kernel
theorem dX8_best_108 : decode cX8_best 108 = .ok (.iload_n 3, 1) := by decide +kernel
theorem dX8_best_109 : decode cX8_best 109 = .ok (.ireturn, 1) := by decide +kernel
set_option maxRecDepth 20000 in
theorem ggX8_path_X5_isPoint : GoodIn wsX8_path wsX5_isPoint := goodIn_r _ [7, 8, 56, 57, 58, 59, 60, 61, 62, 63, 64, 65, 66, 67] rfl rfl
set_option maxRecDepth 20000 in
theorem gX8_path_X5_isPoint : GoodIn wsX8_path (wsV RX8 114 RX5 yX5_isPoint wsX5_isPoint) := goodIn_app (goodIn_of _ (by decide +kernel)) ggX8_path_X5_isPoint
set_option maxRecDepth 20000 in
theorem ggX8_path_X5_isClaim : GoodIn wsX8_path wsX5_isClaim := goodIn_r _ [12, 13, 14, 4, 5, 6, 7, 8, 15, 16, 17, 56, 57, 58, 59, 60, 61, 62, 63, 64, 65, 66, 67] rfl rfl
set_option maxRecDepth 20000 in
theorem gX8_path_X5_isClaim : GoodIn wsX8_path (wsV RX8 244 RX5 yX5_isClaim wsX5_isClaim) := goodIn_app (goodIn_of _ (by decide +kernel)) ggX8_path_X5_isClaim
set_option maxRecDepth 20000 in
theorem ggX8_path_X8_has : GoodIn wsX8_path wsX8_has := goodIn_r _ [17] rfl rfl
set_option maxRecDepth 20000 in
theorem gX8_path_X8_has : GoodIn wsX8_path (va_wsS RX8 220 yX8_has wsX8_has) := goodIn_app (goodIn_of _ (by decide +kernel)) ggX8_path_X8_has
set_option maxRecDepth 20000 in
theorem ggX8_path_X8_now : GoodIn wsX8_path wsX8_now := goodIn_r _ [22, 23, 24, 25, 26, 27, 28, 29, 30, 38, 39, 40, 41, 42, 43, 44, 45, 46, 47, 48, 49, 50, 68, 69, 70, 71] rfl rfl
set_option maxRecDepth 20000 in
theorem gX8_path_X8_now : GoodIn wsX8_path (wsV RX8 88 RX8 yX8_now wsX8_now) := goodIn_app (goodIn_of _ (by decide +kernel)) ggX8_path_X8_now
set_option maxRecDepth 20000 in
theorem ggX8_path_X5_ahead : GoodIn wsX8_path wsX5_ahead := goodIn_r _ [34, 35, 36, 37, 15, 16, 17, 56, 57, 58, 59, 60, 61, 62, 63, 64, 65, 66, 67] rfl rfl
set_option maxRecDepth 20000 in
theorem gX8_path_X5_ahead : GoodIn wsX8_path (wsV RX8 305 RX5 yX5_ahead wsX5_ahead) := goodIn_app (goodIn_of _ (by decide +kernel)) ggX8_path_X5_ahead
theorem dX8_path_0 : decode cX8_path 0 = .ok (.aload_n 0, 1) := by decide +kernel
theorem dX8_path_1 : decode cX8_path 1 = .ok (.getfield 19, 3) := by decide +kernel
theorem dX8_path_4 : decode cX8_path 4 = .ok (.iload_n 1, 1) := by decide +kernel
theorem dX8_path_5 : decode cX8_path 5 = .ok (.invokevirtual 114, 3) := by decide +kernel
theorem dX8_path_8 : decode cX8_path 8 = .ok (.ifCond .eq 14, 3) := by decide +kernel
theorem dX8_path_11 : decode cX8_path 11 = .ok (.aload_n 0, 1) := by decide +kernel
theorem dX8_path_12 : decode cX8_path 12 = .ok (.getfield 19, 3) := by decide +kernel
theorem dX8_path_15 : decode cX8_path 15 = .ok (.iload_n 2, 1) := by decide +kernel
theorem dX8_path_16 : decode cX8_path 16 = .ok (.invokevirtual 244, 3) := by decide +kernel
theorem dX8_path_19 : decode cX8_path 19 = .ok (.ifCond .ne 5, 3) := by decide +kernel
theorem dX8_path_22 : decode cX8_path 22 = .ok (.iconst (-1), 1) := by decide +kernel
theorem dX8_path_23 : decode cX8_path 23 = .ok (.ireturn, 1) := by decide +kernel
theorem dX8_path_24 : decode cX8_path 24 = .ok (.iconst 1, 1) := by decide +kernel
theorem dX8_path_25 : decode cX8_path 25 = .ok (.iload_n 1, 1) := by decide +kernel
theorem dX8_path_26 : decode cX8_path 26 = .ok (.ishl, 1) := by decide +kernel
theorem dX8_path_27 : decode cX8_path 27 = .ok (.istore_n 3, 1) := by decide +kernel
theorem dX8_path_28 : decode cX8_path 28 = .ok (.iconst 0, 1) := by decide +kernel
theorem dX8_path_29 : decode cX8_path 29 = .ok (.istore 4, 2) := by decide +kernel
theorem dX8_path_31 : decode cX8_path 31 = .ok (.iload 4, 2) := by decide +kernel
theorem dX8_path_33 : decode cX8_path 33 = .ok (.bipush 10, 2) := by decide +kernel
theorem dX8_path_35 : decode cX8_path 35 = .ok (.if_icmp .ge 38, 3) := by decide +kernel
theorem dX8_path_38 : decode cX8_path 38 = .ok (.iload_n 3, 1) := by decide +kernel
theorem dX8_path_39 : decode cX8_path 39 = .ok (.iload_n 2, 1) := by decide +kernel
theorem dX8_path_40 : decode cX8_path 40 = .ok (.invokestatic 220, 3) := by decide +kernel
theorem dX8_path_43 : decode cX8_path 43 = .ok (.ifCond .eq 6, 3) := by decide +kernel
theorem dX8_path_46 : decode cX8_path 46 = .ok (.iload 4, 2) := by decide +kernel
theorem dX8_path_48 : decode cX8_path 48 = .ok (.ireturn, 1) := by decide +kernel
theorem dX8_path_49 : decode cX8_path 49 = .ok (.iload_n 3, 1) := by decide +kernel
theorem dX8_path_50 : decode cX8_path 50 = .ok (.aload_n 0, 1) := by decide +kernel
theorem dX8_path_51 : decode cX8_path 51 = .ok (.getfield 19, 3) := by decide +kernel
theorem dX8_path_54 : decode cX8_path 54 = .ok (.iload_n 3, 1) := by decide +kernel
theorem dX8_path_55 : decode cX8_path 55 = .ok (.aload_n 0, 1) := by decide +kernel
theorem dX8_path_56 : decode cX8_path 56 = .ok (.invokevirtual 88, 3) := by decide +kernel
theorem dX8_path_59 : decode cX8_path 59 = .ok (.getfield 145, 3) := by decide +kernel
theorem dX8_path_62 : decode cX8_path 62 = .ok (.invokevirtual 305, 3) := by decide +kernel
theorem dX8_path_65 : decode cX8_path 65 = .ok (.ior, 1) := by decide +kernel
theorem dX8_path_66 : decode cX8_path 66 = .ok (.istore_n 3, 1) := by decide +kernel
theorem dX8_path_67 : decode cX8_path 67 = .ok (.iinc 4 1, 3) := by decide +kernel
theorem dX8_path_70 : decode cX8_path 70 = .ok (.goto (-39), 3) := by decide +kernel
theorem dX8_path_73 : decode cX8_path 73 = .ok (.iconst (-1), 1) := by decide +kernel
theorem dX8_path_74 : decode cX8_path 74 = .ok (.ireturn, 1) := by decide +kernel
set_option maxRecDepth 20000 in
theorem ggX8_counsels_X5_isClaim : GoodIn wsX8_counsels wsX5_isClaim := goodIn_r _ [9, 10, 11, 12, 13, 8, 14, 15, 16, 17, 18, 188, 189, 190, 191, 192, 193, 194, 195, 196, 197, 198, 199] rfl rfl
set_option maxRecDepth 20000 in
theorem gX8_counsels_X5_isClaim : GoodIn wsX8_counsels (wsV RX8 244 RX5 yX5_isClaim wsX5_isClaim) := goodIn_app (goodIn_of _ (by decide +kernel)) ggX8_counsels_X5_isClaim
set_option maxRecDepth 20000 in
theorem ggX8_counsels_X8_now : GoodIn wsX8_counsels wsX8_now := goodIn_r _ [22, 23, 24, 25, 26, 27, 28, 29, 30, 170, 171, 172, 173, 174, 175, 176, 177, 178, 179, 180, 181, 182, 200, 201, 202, 203] rfl rfl
set_option maxRecDepth 20000 in
theorem gX8_counsels_X8_now : GoodIn wsX8_counsels (wsV RX8 88 RX8 yX8_now wsX8_now) := goodIn_app (goodIn_of _ (by decide +kernel)) ggX8_counsels_X8_now
set_option maxRecDepth 20000 in
theorem ggX8_counsels_X8_look : GoodIn wsX8_counsels wsX8_look := goodIn_r _ [34, 35, 2, 19, 20, 21, 17, 22, 23, 24, 25, 26, 27, 28, 29, 30, 36, 37, 38, 39, 40, 41, 42, 43, 44, 45, 46, 47, 48, 49, 50, 51, 52, 53, 54, 55, 170, 171, 172, 173, 174, 175, 176, 177, 178, 179, 180, 181, 182, 200, 201, 202, 203, 204, 205, 206, 207, 208, 209, 210, 211, 212, 213, 188, 189, 190, 191, 192, 193, 194, 195, 196, 197, 198, 199, 183, 184, 185, 186, 187] rfl rfl
set_option maxRecDepth 20000 in
theorem gX8_counsels_X8_look : GoodIn wsX8_counsels (wsV RX8 148 RX8 yX8_look wsX8_look) := goodIn_app (goodIn_of _ (by decide +kernel)) ggX8_counsels_X8_look
set_option maxRecDepth 20000 in
theorem ggX8_counsels_X8_fillOutcomes : GoodIn wsX8_counsels wsX8_fillOutcomes := goodIn_r _ [59, 3, 4, 35, 19, 20, 21, 17, 22, 23, 24, 25, 26, 27, 28, 29, 30, 60, 61, 62, 63, 2, 64, 65, 66, 8, 67, 68, 69, 16, 18, 70, 71, 72, 39, 73, 44, 41, 74, 75, 76, 77, 78, 48, 79, 80, 81, 82, 83, 84, 85, 86, 87, 88, 89, 90, 55, 54, 46, 91, 92, 93, 94, 95, 96, 97, 98, 99, 100, 101, 102, 103, 104, 105, 106, 107, 108, 109, 110, 111, 112, 113, 114, 115, 116, 117, 118, 119, 120, 121, 122, 123, 124, 125, 126, 127, 128, 129, 130, 131, 132, 133, 134, 135, 136, 137, 138, 139, 140, 141, 142, 143, 144, 145, 146, 147, 15, 10, 148, 149, 150, 151, 183, 184, 185, 186, 187, 170, 171, 172, 173, 174, 175, 176, 177, 178, 179, 180, 181, 182, 200, 201, 202, 203, 188, 189, 190, 191, 192, 193, 194, 195, 196, 197, 198, 199, 204, 205, 206, 207, 208, 209, 210, 211, 212, 213, 214, 215, 216, 217, 218, 219] rfl rfl
set_option maxRecDepth 20000 in
theorem gX8_counsels_X8_fillOutcomes : GoodIn wsX8_counsels (wsV RX8 315 RX8 yX8_fillOutcomes wsX8_fillOutcomes) := goodIn_app (goodIn_of _ (by decide +kernel)) ggX8_counsels_X8_fillOutcomes
set_option maxRecDepth 20000 in
theorem ggX8_counsels_X8_isTied : GoodIn wsX8_counsels wsX8_isTied := goodIn_r _ [63, 2, 3, 64, 65, 66, 8, 67, 68, 19, 20, 21, 17, 22, 23, 24, 25, 26, 27, 28, 29, 30, 69, 16, 18, 170, 171, 172, 173, 174, 175, 176, 177, 178, 179, 180, 181, 182, 183, 184, 185, 186, 187, 188, 189, 190, 191, 192, 193, 194, 195, 196, 197, 198, 199, 200, 201, 202, 203] rfl rfl
set_option maxRecDepth 20000 in
theorem gX8_counsels_X8_isTied : GoodIn wsX8_counsels (wsV RX8 190 RX8 yX8_isTied wsX8_isTied) := goodIn_app (goodIn_of _ (by decide +kernel)) ggX8_counsels_X8_isTied
set_option maxRecDepth 20000 in
theorem ggX8_counsels_X8_isRest : GoodIn wsX8_counsels wsX8_isRest := goodIn_r _ [155, 2, 156, 157, 158, 159, 17, 160, 4, 161, 162, 163, 164, 60, 61, 62, 63, 3, 64, 65, 66, 8, 67, 68, 19, 20, 21, 22, 23, 24, 25, 26, 27, 28, 29, 30, 69, 16, 18, 170, 171, 172, 173, 174, 175, 176, 177, 178, 179, 180, 181, 182, 188, 189, 190, 191, 192, 193, 194, 195, 196, 197, 198, 199, 183, 184, 185, 186, 187, 200, 201, 202, 203] rfl rfl
set_option maxRecDepth 20000 in
theorem gX8_counsels_X8_isRest : GoodIn wsX8_counsels (wsV RX8 318 RX8 yX8_isRest wsX8_isRest) := goodIn_app (goodIn_of _ (by decide +kernel)) ggX8_counsels_X8_isRest
set_option maxRecDepth 20000 in
theorem ggX8_counsels_X8_lay : GoodIn wsX8_counsels wsX8_lay := goodIn_r _ [168, 1, 169, 170, 171, 172, 173, 174, 175, 176, 177, 178, 179, 180, 181, 182] rfl rfl
set_option maxRecDepth 20000 in
theorem gX8_counsels_X8_lay : GoodIn wsX8_counsels (wsV RX8 321 RX8 yX8_lay wsX8_lay) := goodIn_app (goodIn_of _ (by decide +kernel)) ggX8_counsels_X8_lay
theorem dX8_counsels_0 : decode cX8_counsels 0 = .ok (.aload_n 0, 1) := by decide +kernel
theorem dX8_counsels_1 : decode cX8_counsels 1 = .ok (.iconst 0, 1) := by decide +kernel
theorem dX8_counsels_2 : decode cX8_counsels 2 = .ok (.putfield 102, 3) := by decide +kernel
theorem dX8_counsels_5 : decode cX8_counsels 5 = .ok (.iload_n 1, 1) := by decide +kernel
theorem dX8_counsels_6 : decode cX8_counsels 6 = .ok (.iload_n 2, 1) := by decide +kernel
theorem dX8_counsels_7 : decode cX8_counsels 7 = .ok (.if_icmp .eq 35, 3) := by decide +kernel
theorem dX8_counsels_10 : decode cX8_counsels 10 = .ok (.aload_n 0, 1) := by decide +kernel
theorem dX8_counsels_11 : decode cX8_counsels 11 = .ok (.getfield 19, 3) := by decide +kernel
theorem dX8_counsels_14 : decode cX8_counsels 14 = .ok (.iload_n 1, 1) := by decide +kernel
theorem dX8_counsels_15 : decode cX8_counsels 15 = .ok (.invokevirtual 244, 3) := by decide +kernel
theorem dX8_counsels_18 : decode cX8_counsels 18 = .ok (.ifCond .eq 24, 3) := by decide +kernel
theorem dX8_counsels_21 : decode cX8_counsels 21 = .ok (.aload_n 0, 1) := by decide +kernel
theorem dX8_counsels_22 : decode cX8_counsels 22 = .ok (.getfield 19, 3) := by decide +kernel
theorem dX8_counsels_25 : decode cX8_counsels 25 = .ok (.iload_n 2, 1) := by decide +kernel
theorem dX8_counsels_26 : decode cX8_counsels 26 = .ok (.invokevirtual 244, 3) := by decide +kernel
theorem dX8_counsels_29 : decode cX8_counsels 29 = .ok (.ifCond .eq 13, 3) := by decide +kernel
theorem dX8_counsels_32 : decode cX8_counsels 32 = .ok (.aload_n 0, 1) := by decide +kernel
theorem dX8_counsels_33 : decode cX8_counsels 33 = .ok (.invokevirtual 88, 3) := by decide +kernel
theorem dX8_counsels_36 : decode cX8_counsels 36 = .ok (.getfield 145, 3) := by decide +kernel
theorem dX8_counsels_39 : decode cX8_counsels 39 = .ok (.ifCond .ne 5, 3) := by decide +kernel
theorem dX8_counsels_42 : decode cX8_counsels 42 = .ok (.iconst (-1), 1) := by decide +kernel
theorem dX8_counsels_43 : decode cX8_counsels 43 = .ok (.ireturn, 1) := by decide +kernel
theorem dX8_counsels_44 : decode cX8_counsels 44 = .ok (.aload_n 0, 1) := by decide +kernel
theorem dX8_counsels_45 : decode cX8_counsels 45 = .ok (.invokevirtual 148, 3) := by decide +kernel
theorem dX8_counsels_48 : decode cX8_counsels 48 = .ok (.aload_n 0, 1) := by decide +kernel
theorem dX8_counsels_49 : decode cX8_counsels 49 = .ok (.iload_n 1, 1) := by decide +kernel
theorem dX8_counsels_50 : decode cX8_counsels 50 = .ok (.iload_n 2, 1) := by decide +kernel
theorem dX8_counsels_51 : decode cX8_counsels 51 = .ok (.invokevirtual 315, 3) := by decide +kernel
theorem dX8_counsels_54 : decode cX8_counsels 54 = .ok (.iconst 0, 1) := by decide +kernel
theorem dX8_counsels_55 : decode cX8_counsels 55 = .ok (.istore_n 3, 1) := by decide +kernel
theorem dX8_counsels_56 : decode cX8_counsels 56 = .ok (.iconst 0, 1) := by decide +kernel
theorem dX8_counsels_57 : decode cX8_counsels 57 = .ok (.istore 4, 2) := by decide +kernel
theorem dX8_counsels_59 : decode cX8_counsels 59 = .ok (.iload 4, 2) := by decide +kernel
theorem dX8_counsels_61 : decode cX8_counsels 61 = .ok (.aload_n 0, 1) := by decide +kernel
theorem dX8_counsels_62 : decode cX8_counsels 62 = .ok (.getfield 48, 3) := by decide +kernel
theorem dX8_counsels_65 : decode cX8_counsels 65 = .ok (.arraylength, 1) := by decide +kernel
theorem dX8_counsels_66 : decode cX8_counsels 66 = .ok (.if_icmp .ge 71, 3) := by decide +kernel
theorem dX8_counsels_69 : decode cX8_counsels 69 = .ok (.iload 4, 2) := by decide +kernel
theorem dX8_counsels_71 : decode cX8_counsels 71 = .ok (.bipush 12, 2) := by decide +kernel
theorem dX8_counsels_73 : decode cX8_counsels 73 = .ok (.idiv, 1) := by decide +kernel
theorem dX8_counsels_74 : decode cX8_counsels 74 = .ok (.istore 5, 2) := by decide +kernel
theorem dX8_counsels_76 : decode cX8_counsels 76 = .ok (.iload 4, 2) := by decide +kernel
theorem dX8_counsels_78 : decode cX8_counsels 78 = .ok (.bipush 12, 2) := by decide +kernel
theorem dX8_counsels_80 : decode cX8_counsels 80 = .ok (.irem, 1) := by decide +kernel
theorem dX8_counsels_81 : decode cX8_counsels 81 = .ok (.istore 6, 2) := by decide +kernel
theorem dX8_counsels_83 : decode cX8_counsels 83 = .ok (.aload_n 0, 1) := by decide +kernel
theorem dX8_counsels_84 : decode cX8_counsels 84 = .ok (.iload 5, 2) := by decide +kernel
theorem dX8_counsels_86 : decode cX8_counsels 86 = .ok (.invokevirtual 190, 3) := by decide +kernel
theorem dX8_counsels_89 : decode cX8_counsels 89 = .ok (.ifCond .eq 42, 3) := by decide +kernel
theorem dX8_counsels_92 : decode cX8_counsels 92 = .ok (.aload_n 0, 1) := by decide +kernel
theorem dX8_counsels_93 : decode cX8_counsels 93 = .ok (.iload 6, 2) := by decide +kernel
theorem dX8_counsels_95 : decode cX8_counsels 95 = .ok (.invokevirtual 190, 3) := by decide +kernel
theorem dX8_counsels_98 : decode cX8_counsels 98 = .ok (.ifCond .eq 33, 3) := by decide +kernel
theorem dX8_counsels_101 : decode cX8_counsels 101 = .ok (.aload_n 0, 1) := by decide +kernel
theorem dX8_counsels_102 : decode cX8_counsels 102 = .ok (.iload 5, 2) := by decide +kernel
theorem dX8_counsels_104 : decode cX8_counsels 104 = .ok (.iload 6, 2) := by decide +kernel
theorem dX8_counsels_106 : decode cX8_counsels 106 = .ok (.invokevirtual 318, 3) := by decide +kernel
theorem dX8_counsels_109 : decode cX8_counsels 109 = .ok (.ifCond .eq 22, 3) := by decide +kernel
theorem dX8_counsels_112 : decode cX8_counsels 112 = .ok (.iload_n 3, 1) := by decide +kernel
theorem dX8_counsels_113 : decode cX8_counsels 113 = .ok (.ifCond .ne 15, 3) := by decide +kernel
theorem dX8_counsels_116 : decode cX8_counsels 116 = .ok (.aload_n 0, 1) := by decide +kernel
theorem dX8_counsels_117 : decode cX8_counsels 117 = .ok (.iload 5, 2) := by decide +kernel
theorem dX8_counsels_119 : decode cX8_counsels 119 = .ok (.invokevirtual 321, 3) := by decide +kernel
theorem dX8_counsels_122 : decode cX8_counsels 122 = .ok (.aload_n 0, 1) := by decide +kernel
theorem dX8_counsels_123 : decode cX8_counsels 123 = .ok (.iload 6, 2) := by decide +kernel
theorem dX8_counsels_125 : decode cX8_counsels 125 = .ok (.invokevirtual 321, 3) := by decide +kernel
theorem dX8_counsels_128 : decode cX8_counsels 128 = .ok (.iinc 3 1, 3) := by decide +kernel
theorem dX8_counsels_131 : decode cX8_counsels 131 = .ok (.iinc 4 1, 3) := by decide +kernel
theorem dX8_counsels_134 : decode cX8_counsels 134 = .ok (.goto (-75), 3) := by decide +kernel
theorem dX8_counsels_137 : decode cX8_counsels 137 = .ok (.iload_n 3, 1) := by decide +kernel
theorem dX8_counsels_138 : decode cX8_counsels 138 = .ok (.ireturn, 1) := by decide +kernel
set_option maxRecDepth 20000 in
theorem ggX8_fillOutcomes_X8_now : GoodIn wsX8_fillOutcomes wsX8_now := goodIn_r _ [8, 9, 10, 11, 12, 13, 14, 15, 16, 127, 128, 129, 130, 131, 132, 133, 134, 135, 136, 137, 138, 139, 140, 141, 142, 143] rfl rfl
set_option maxRecDepth 20000 in
theorem gX8_fillOutcomes_X8_now : GoodIn wsX8_fillOutcomes (wsV RX8 88 RX8 yX8_now wsX8_now) := goodIn_app (goodIn_of _ (by decide +kernel)) ggX8_fillOutcomes_X8_now
set_option maxRecDepth 20000 in
theorem ggX8_fillOutcomes_X8_isTied : GoodIn wsX8_fillOutcomes wsX8_isTied := goodIn_r _ [20, 21, 1, 22, 23, 24, 25, 26, 27, 4, 5, 6, 7, 8, 9, 10, 11, 12, 13, 14, 15, 16, 28, 29, 30, 127, 128, 129, 130, 131, 132, 133, 134, 135, 136, 137, 138, 139, 122, 123, 124, 125, 126, 144, 145, 146, 147, 148, 149, 150, 151, 152, 153, 154, 155, 140, 141, 142, 143] rfl rfl
set_option maxRecDepth 20000 in
theorem gX8_fillOutcomes_X8_isTied : GoodIn wsX8_fillOutcomes (wsV RX8 190 RX8 yX8_isTied wsX8_isTied) := goodIn_app (goodIn_of _ (by decide +kernel)) ggX8_fillOutcomes_X8_isTied
set_option maxRecDepth 20000 in
theorem ggX8_fillOutcomes_X2_standing : GoodIn wsX8_fillOutcomes wsX2_standing := goodIn_r _ [35, 36, 37, 38, 39, 40, 34, 41, 42, 43, 44, 29, 7, 30, 45, 46, 47, 48, 49, 50, 51, 52, 53, 54, 55, 56, 57, 58, 59, 60, 61, 62, 63, 64, 65, 66, 67, 68, 69, 70, 71, 72, 73, 74, 75, 76, 77, 78, 79, 80, 81, 82, 83, 84, 85, 86, 87, 88, 89, 90, 91, 92, 93, 94, 95, 96, 97, 98, 99, 100, 101, 102, 103, 104, 105, 106, 107, 108, 109, 110, 111, 112, 113, 114, 25, 115, 116, 117, 118, 119, 120, 121, 156, 157, 158, 159, 160, 161, 162, 163, 164, 165, 144, 145, 146, 147, 148, 149, 150, 151, 152, 153, 154, 155, 166, 167, 168, 169, 170, 171] rfl rfl
set_option maxRecDepth 20000 in
theorem gX8_fillOutcomes_X2_standing : GoodIn wsX8_fillOutcomes (wsV RX8 231 RX2 yX2_standing wsX2_standing) := goodIn_app (goodIn_of _ (by decide +kernel)) ggX8_fillOutcomes_X2_standing
theorem dX8_fillOutcomes_0 : decode cX8_fillOutcomes 0 = .ok (.aload_n 0, 1) := by decide +kernel
theorem dX8_fillOutcomes_1 : decode cX8_fillOutcomes 1 = .ok (.invokevirtual 88, 3) := by decide +kernel
theorem dX8_fillOutcomes_4 : decode cX8_fillOutcomes 4 = .ok (.getfield 145, 3) := by decide +kernel
theorem dX8_fillOutcomes_7 : decode cX8_fillOutcomes 7 = .ok (.istore_n 3, 1) := by decide +kernel
theorem dX8_fillOutcomes_8 : decode cX8_fillOutcomes 8 = .ok (.iconst 0, 1) := by decide +kernel
theorem dX8_fillOutcomes_9 : decode cX8_fillOutcomes 9 = .ok (.istore 4, 2) := by decide +kernel
theorem dX8_fillOutcomes_11 : decode cX8_fillOutcomes 11 = .ok (.iload 4, 2) := by decide +kernel
theorem dX8_fillOutcomes_13 : decode cX8_fillOutcomes 13 = .ok (.aload_n 0, 1) := by decide +kernel
theorem dX8_fillOutcomes_14 : decode cX8_fillOutcomes 14 = .ok (.getfield 48, 3) := by decide +kernel
theorem dX8_fillOutcomes_17 : decode cX8_fillOutcomes 17 = .ok (.arraylength, 1) := by decide +kernel
theorem dX8_fillOutcomes_18 : decode cX8_fillOutcomes 18 = .ok (.if_icmp .ge 85, 3) := by decide +kernel
theorem dX8_fillOutcomes_21 : decode cX8_fillOutcomes 21 = .ok (.iload 4, 2) := by decide +kernel
theorem dX8_fillOutcomes_23 : decode cX8_fillOutcomes 23 = .ok (.bipush 12, 2) := by decide +kernel
theorem dX8_fillOutcomes_25 : decode cX8_fillOutcomes 25 = .ok (.idiv, 1) := by decide +kernel
theorem dX8_fillOutcomes_26 : decode cX8_fillOutcomes 26 = .ok (.istore 5, 2) := by decide +kernel
theorem dX8_fillOutcomes_28 : decode cX8_fillOutcomes 28 = .ok (.iload 4, 2) := by decide +kernel
theorem dX8_fillOutcomes_30 : decode cX8_fillOutcomes 30 = .ok (.bipush 12, 2) := by decide +kernel
theorem dX8_fillOutcomes_32 : decode cX8_fillOutcomes 32 = .ok (.irem, 1) := by decide +kernel
theorem dX8_fillOutcomes_33 : decode cX8_fillOutcomes 33 = .ok (.istore 6, 2) := by decide +kernel
theorem dX8_fillOutcomes_35 : decode cX8_fillOutcomes 35 = .ok (.aload_n 0, 1) := by decide +kernel
theorem dX8_fillOutcomes_36 : decode cX8_fillOutcomes 36 = .ok (.iload 5, 2) := by decide +kernel
theorem dX8_fillOutcomes_38 : decode cX8_fillOutcomes 38 = .ok (.invokevirtual 190, 3) := by decide +kernel
theorem dX8_fillOutcomes_41 : decode cX8_fillOutcomes 41 = .ok (.ifCond .eq 56, 3) := by decide +kernel
theorem dX8_fillOutcomes_44 : decode cX8_fillOutcomes 44 = .ok (.aload_n 0, 1) := by decide +kernel
theorem dX8_fillOutcomes_45 : decode cX8_fillOutcomes 45 = .ok (.iload 6, 2) := by decide +kernel
theorem dX8_fillOutcomes_47 : decode cX8_fillOutcomes 47 = .ok (.invokevirtual 190, 3) := by decide +kernel
theorem dX8_fillOutcomes_50 : decode cX8_fillOutcomes 50 = .ok (.ifCond .eq 47, 3) := by decide +kernel
theorem dX8_fillOutcomes_53 : decode cX8_fillOutcomes 53 = .ok (.aload_n 0, 1) := by decide +kernel
theorem dX8_fillOutcomes_54 : decode cX8_fillOutcomes 54 = .ok (.getfield 44, 3) := by decide +kernel
theorem dX8_fillOutcomes_57 : decode cX8_fillOutcomes 57 = .ok (.iload_n 3, 1) := by decide +kernel
theorem dX8_fillOutcomes_58 : decode cX8_fillOutcomes 58 = .ok (.iconst 1, 1) := by decide +kernel
theorem dX8_fillOutcomes_59 : decode cX8_fillOutcomes 59 = .ok (.iload 5, 2) := by decide +kernel
theorem dX8_fillOutcomes_61 : decode cX8_fillOutcomes 61 = .ok (.ishl, 1) := by decide +kernel
theorem dX8_fillOutcomes_62 : decode cX8_fillOutcomes 62 = .ok (.iconst 1, 1) := by decide +kernel
theorem dX8_fillOutcomes_63 : decode cX8_fillOutcomes 63 = .ok (.iload 6, 2) := by decide +kernel
theorem dX8_fillOutcomes_65 : decode cX8_fillOutcomes 65 = .ok (.ishl, 1) := by decide +kernel
theorem dX8_fillOutcomes_66 : decode cX8_fillOutcomes 66 = .ok (.ior, 1) := by decide +kernel
theorem dX8_fillOutcomes_67 : decode cX8_fillOutcomes 67 = .ok (.iconst (-1), 1) := by decide +kernel
theorem dX8_fillOutcomes_68 : decode cX8_fillOutcomes 68 = .ok (.ixor, 1) := by decide +kernel
theorem dX8_fillOutcomes_69 : decode cX8_fillOutcomes 69 = .ok (.iand, 1) := by decide +kernel
theorem dX8_fillOutcomes_70 : decode cX8_fillOutcomes 70 = .ok (.invokevirtual 231, 3) := by decide +kernel
theorem dX8_fillOutcomes_73 : decode cX8_fillOutcomes 73 = .ok (.istore 7, 2) := by decide +kernel
theorem dX8_fillOutcomes_75 : decode cX8_fillOutcomes 75 = .ok (.aload_n 0, 1) := by decide +kernel
theorem dX8_fillOutcomes_76 : decode cX8_fillOutcomes 76 = .ok (.getfield 48, 3) := by decide +kernel
theorem dX8_fillOutcomes_79 : decode cX8_fillOutcomes 79 = .ok (.iload 4, 2) := by decide +kernel
theorem dX8_fillOutcomes_81 : decode cX8_fillOutcomes 81 = .ok (.iload 7, 2) := by decide +kernel
theorem dX8_fillOutcomes_83 : decode cX8_fillOutcomes 83 = .ok (.iload_n 1, 1) := by decide +kernel
theorem dX8_fillOutcomes_84 : decode cX8_fillOutcomes 84 = .ok (.ishr, 1) := by decide +kernel
theorem dX8_fillOutcomes_85 : decode cX8_fillOutcomes 85 = .ok (.iconst 1, 1) := by decide +kernel
theorem dX8_fillOutcomes_86 : decode cX8_fillOutcomes 86 = .ok (.iand, 1) := by decide +kernel
theorem dX8_fillOutcomes_87 : decode cX8_fillOutcomes 87 = .ok (.iload 7, 2) := by decide +kernel
theorem dX8_fillOutcomes_89 : decode cX8_fillOutcomes 89 = .ok (.iload_n 2, 1) := by decide +kernel
theorem dX8_fillOutcomes_90 : decode cX8_fillOutcomes 90 = .ok (.ishr, 1) := by decide +kernel
theorem dX8_fillOutcomes_91 : decode cX8_fillOutcomes 91 = .ok (.iconst 1, 1) := by decide +kernel
theorem dX8_fillOutcomes_92 : decode cX8_fillOutcomes 92 = .ok (.iand, 1) := by decide +kernel
theorem dX8_fillOutcomes_93 : decode cX8_fillOutcomes 93 = .ok (.iconst 1, 1) := by decide +kernel
theorem dX8_fillOutcomes_94 : decode cX8_fillOutcomes 94 = .ok (.ishl, 1) := by decide +kernel
theorem dX8_fillOutcomes_95 : decode cX8_fillOutcomes 95 = .ok (.ior, 1) := by decide +kernel
theorem dX8_fillOutcomes_96 : decode cX8_fillOutcomes 96 = .ok (.iastore, 1) := by decide +kernel
theorem dX8_fillOutcomes_97 : decode cX8_fillOutcomes 97 = .ok (.iinc 4 1, 3) := by decide +kernel
theorem dX8_fillOutcomes_100 : decode cX8_fillOutcomes 100 = .ok (.goto (-89), 3) := by decide +kernel
theorem dX8_fillOutcomes_103 : decode cX8_fillOutcomes 103 = .ok (.return_, 1) := by decide +kernel
set_option maxRecDepth 20000 in
theorem ggX8_isRest_X8_firstGain : GoodIn wsX8_isRest wsX8_firstGain := goodIn_r _ [7, 8, 39, 40, 41, 42, 43, 44, 45, 46, 47, 48, 49, 50, 51] rfl rfl
set_option maxRecDepth 20000 in
theorem gX8_isRest_X8_firstGain : GoodIn wsX8_isRest (wsV RX8 324 RX8 yX8_firstGain wsX8_firstGain) := goodIn_app (goodIn_of _ (by decide +kernel)) ggX8_isRest_X8_firstGain
set_option maxRecDepth 20000 in
theorem ggX8_isRest_X8_otherGain : GoodIn wsX8_isRest wsX8_otherGain := goodIn_r _ [12, 8, 39, 40, 41, 42, 43, 44, 45, 46, 47, 48, 49, 50, 51] rfl rfl
set_option maxRecDepth 20000 in
theorem gX8_isRest_X8_otherGain : GoodIn wsX8_isRest (wsV RX8 327 RX8 yX8_otherGain wsX8_otherGain) := goodIn_app (goodIn_of _ (by decide +kernel)) ggX8_isRest_X8_otherGain
set_option maxRecDepth 20000 in
theorem ggX8_isRest_X8_isTied : GoodIn wsX8_isRest wsX8_isTied := goodIn_r _ [16, 1, 17, 18, 19, 20, 21, 22, 23, 24, 25, 26, 6, 27, 28, 29, 30, 31, 32, 33, 34, 35, 36, 37, 38, 39, 40, 41, 42, 43, 44, 45, 46, 47, 48, 49, 50, 51, 64, 65, 66, 67, 68, 52, 53, 54, 55, 56, 57, 58, 59, 60, 61, 62, 63, 69, 70, 71, 72] rfl rfl
set_option maxRecDepth 20000 in
theorem gX8_isRest_X8_isTied : GoodIn wsX8_isRest (wsV RX8 190 RX8 yX8_isTied wsX8_isTied) := goodIn_app (goodIn_of _ (by decide +kernel)) ggX8_isRest_X8_isTied
theorem dX8_isRest_0 : decode cX8_isRest 0 = .ok (.aload_n 0, 1) := by decide +kernel
theorem dX8_isRest_1 : decode cX8_isRest 1 = .ok (.iload_n 1, 1) := by decide +kernel
theorem dX8_isRest_2 : decode cX8_isRest 2 = .ok (.iload_n 2, 1) := by decide +kernel
theorem dX8_isRest_3 : decode cX8_isRest 3 = .ok (.invokevirtual 324, 3) := by decide +kernel
theorem dX8_isRest_6 : decode cX8_isRest 6 = .ok (.istore_n 3, 1) := by decide +kernel
theorem dX8_isRest_7 : decode cX8_isRest 7 = .ok (.aload_n 0, 1) := by decide +kernel
theorem dX8_isRest_8 : decode cX8_isRest 8 = .ok (.iload_n 1, 1) := by decide +kernel
theorem dX8_isRest_9 : decode cX8_isRest 9 = .ok (.iload_n 2, 1) := by decide +kernel
theorem dX8_isRest_10 : decode cX8_isRest 10 = .ok (.invokevirtual 327, 3) := by decide +kernel
theorem dX8_isRest_13 : decode cX8_isRest 13 = .ok (.istore 4, 2) := by decide +kernel
theorem dX8_isRest_15 : decode cX8_isRest 15 = .ok (.iconst 0, 1) := by decide +kernel
theorem dX8_isRest_16 : decode cX8_isRest 16 = .ok (.istore 5, 2) := by decide +kernel
theorem dX8_isRest_18 : decode cX8_isRest 18 = .ok (.iload 5, 2) := by decide +kernel
theorem dX8_isRest_20 : decode cX8_isRest 20 = .ok (.aload_n 0, 1) := by decide +kernel
theorem dX8_isRest_21 : decode cX8_isRest 21 = .ok (.getfield 19, 3) := by decide +kernel
theorem dX8_isRest_24 : decode cX8_isRest 24 = .ok (.getfield 157, 3) := by decide +kernel
theorem dX8_isRest_27 : decode cX8_isRest 27 = .ok (.if_icmp .ge 43, 3) := by decide +kernel
theorem dX8_isRest_30 : decode cX8_isRest 30 = .ok (.aload_n 0, 1) := by decide +kernel
theorem dX8_isRest_31 : decode cX8_isRest 31 = .ok (.iload 5, 2) := by decide +kernel
theorem dX8_isRest_33 : decode cX8_isRest 33 = .ok (.invokevirtual 190, 3) := by decide +kernel
theorem dX8_isRest_36 : decode cX8_isRest 36 = .ok (.ifCond .eq 28, 3) := by decide +kernel
theorem dX8_isRest_39 : decode cX8_isRest 39 = .ok (.aload_n 0, 1) := by decide +kernel
theorem dX8_isRest_40 : decode cX8_isRest 40 = .ok (.iload 5, 2) := by decide +kernel
theorem dX8_isRest_42 : decode cX8_isRest 42 = .ok (.iload_n 2, 1) := by decide +kernel
theorem dX8_isRest_43 : decode cX8_isRest 43 = .ok (.invokevirtual 324, 3) := by decide +kernel
theorem dX8_isRest_46 : decode cX8_isRest 46 = .ok (.iload_n 3, 1) := by decide +kernel
theorem dX8_isRest_47 : decode cX8_isRest 47 = .ok (.if_icmp .gt 15, 3) := by decide +kernel
theorem dX8_isRest_50 : decode cX8_isRest 50 = .ok (.aload_n 0, 1) := by decide +kernel
theorem dX8_isRest_51 : decode cX8_isRest 51 = .ok (.iload_n 1, 1) := by decide +kernel
theorem dX8_isRest_52 : decode cX8_isRest 52 = .ok (.iload 5, 2) := by decide +kernel
theorem dX8_isRest_54 : decode cX8_isRest 54 = .ok (.invokevirtual 327, 3) := by decide +kernel
theorem dX8_isRest_57 : decode cX8_isRest 57 = .ok (.iload 4, 2) := by decide +kernel
theorem dX8_isRest_59 : decode cX8_isRest 59 = .ok (.if_icmp .le 5, 3) := by decide +kernel
theorem dX8_isRest_62 : decode cX8_isRest 62 = .ok (.iconst 0, 1) := by decide +kernel
theorem dX8_isRest_63 : decode cX8_isRest 63 = .ok (.ireturn, 1) := by decide +kernel
theorem dX8_isRest_64 : decode cX8_isRest 64 = .ok (.iinc 5 1, 3) := by decide +kernel
theorem dX8_isRest_67 : decode cX8_isRest 67 = .ok (.goto (-49), 3) := by decide +kernel
theorem dX8_isRest_70 : decode cX8_isRest 70 = .ok (.iconst 1, 1) := by decide +kernel
theorem dX8_isRest_71 : decode cX8_isRest 71 = .ok (.ireturn, 1) := by decide +kernel
theorem dX8_firstGain_0 : decode cX8_firstGain 0 = .ok (.aload_n 0, 1) := by decide +kernel
theorem dX8_firstGain_1 : decode cX8_firstGain 1 = .ok (.getfield 48, 3) := by decide +kernel
theorem dX8_firstGain_4 : decode cX8_firstGain 4 = .ok (.iload_n 1, 1) := by decide +kernel
theorem dX8_firstGain_5 : decode cX8_firstGain 5 = .ok (.bipush 12, 2) := by decide +kernel
theorem dX8_firstGain_7 : decode cX8_firstGain 7 = .ok (.imul, 1) := by decide +kernel
theorem dX8_firstGain_8 : decode cX8_firstGain 8 = .ok (.iload_n 2, 1) := by decide +kernel
theorem dX8_firstGain_9 : decode cX8_firstGain 9 = .ok (.iadd, 1) := by decide +kernel
theorem dX8_firstGain_10 : decode cX8_firstGain 10 = .ok (.iaload, 1) := by decide +kernel
theorem dX8_firstGain_11 : decode cX8_firstGain 11 = .ok (.istore_n 3, 1) := by decide +kernel
theorem dX8_firstGain_12 : decode cX8_firstGain 12 = .ok (.iconst 2, 1) := by decide +kernel
theorem dX8_firstGain_13 : decode cX8_firstGain 13 = .ok (.iload_n 3, 1) := by decide +kernel
theorem dX8_firstGain_14 : decode cX8_firstGain 14 = .ok (.iconst 1, 1) := by decide +kernel
theorem dX8_firstGain_15 : decode cX8_firstGain 15 = .ok (.iand, 1) := by decide +kernel
theorem dX8_firstGain_16 : decode cX8_firstGain 16 = .ok (.imul, 1) := by decide +kernel
theorem dX8_firstGain_17 : decode cX8_firstGain 17 = .ok (.iconst 1, 1) := by decide +kernel
theorem dX8_firstGain_18 : decode cX8_firstGain 18 = .ok (.iadd, 1) := by decide +kernel
theorem dX8_firstGain_19 : decode cX8_firstGain 19 = .ok (.iload_n 3, 1) := by decide +kernel
theorem dX8_firstGain_20 : decode cX8_firstGain 20 = .ok (.iconst 1, 1) := by decide +kernel
theorem dX8_firstGain_21 : decode cX8_firstGain 21 = .ok (.ishr, 1) := by decide +kernel
theorem dX8_firstGain_22 : decode cX8_firstGain 22 = .ok (.isub, 1) := by decide +kernel
theorem dX8_firstGain_23 : decode cX8_firstGain 23 = .ok (.ireturn, 1) := by decide +kernel
theorem dX8_otherGain_0 : decode cX8_otherGain 0 = .ok (.aload_n 0, 1) := by decide +kernel
theorem dX8_otherGain_1 : decode cX8_otherGain 1 = .ok (.getfield 48, 3) := by decide +kernel
theorem dX8_otherGain_4 : decode cX8_otherGain 4 = .ok (.iload_n 1, 1) := by decide +kernel
theorem dX8_otherGain_5 : decode cX8_otherGain 5 = .ok (.bipush 12, 2) := by decide +kernel
theorem dX8_otherGain_7 : decode cX8_otherGain 7 = .ok (.imul, 1) := by decide +kernel
theorem dX8_otherGain_8 : decode cX8_otherGain 8 = .ok (.iload_n 2, 1) := by decide +kernel
theorem dX8_otherGain_9 : decode cX8_otherGain 9 = .ok (.iadd, 1) := by decide +kernel
theorem dX8_otherGain_10 : decode cX8_otherGain 10 = .ok (.iaload, 1) := by decide +kernel
theorem dX8_otherGain_11 : decode cX8_otherGain 11 = .ok (.istore_n 3, 1) := by decide +kernel
theorem dX8_otherGain_12 : decode cX8_otherGain 12 = .ok (.iconst 2, 1) := by decide +kernel
theorem dX8_otherGain_13 : decode cX8_otherGain 13 = .ok (.iload_n 3, 1) := by decide +kernel
theorem dX8_otherGain_14 : decode cX8_otherGain 14 = .ok (.iconst 1, 1) := by decide +kernel
theorem dX8_otherGain_15 : decode cX8_otherGain 15 = .ok (.ishr, 1) := by decide +kernel
theorem dX8_otherGain_16 : decode cX8_otherGain 16 = .ok (.imul, 1) := by decide +kernel
theorem dX8_otherGain_17 : decode cX8_otherGain 17 = .ok (.iconst 1, 1) := by decide +kernel
theorem dX8_otherGain_18 : decode cX8_otherGain 18 = .ok (.iadd, 1) := by decide +kernel
theorem dX8_otherGain_19 : decode cX8_otherGain 19 = .ok (.iload_n 3, 1) := by decide +kernel
theorem dX8_otherGain_20 : decode cX8_otherGain 20 = .ok (.iconst 1, 1) := by decide +kernel
theorem dX8_otherGain_21 : decode cX8_otherGain 21 = .ok (.iand, 1) := by decide +kernel
theorem dX8_otherGain_22 : decode cX8_otherGain 22 = .ok (.isub, 1) := by decide +kernel
theorem dX8_otherGain_23 : decode cX8_otherGain 23 = .ok (.ireturn, 1) := by decide +kernel
set_option maxRecDepth 20000 in
theorem ggX8_proof_X8_leastProp : GoodIn wsX8_proof wsX8_leastProp := goodIn_r _ [10, 3, 11, 12, 13, 14, 9, 15, 2, 16, 17, 18, 19, 20, 21, 22, 23, 24, 25, 26, 27, 28, 29, 30, 31, 32, 33, 34, 35, 36, 37, 38, 39, 40, 41, 42, 43, 44, 45, 46, 47, 48, 49, 50, 51, 52, 53, 54, 55, 56, 57, 58, 59, 60, 61, 62, 63, 64, 65, 66, 67, 68, 69, 70, 71, 72, 73, 74, 75, 76, 77, 78, 79, 80, 81, 82, 83, 84, 85, 86, 87, 88, 89, 90, 91, 92, 93, 94, 95, 96, 97, 98, 99, 100, 101, 102, 103, 104, 105, 106, 107, 108, 109, 110, 111, 112, 113, 114, 115, 116, 117, 118, 119, 120, 121, 122, 123, 124, 125, 126, 127, 128, 129, 130, 131, 132, 133, 134, 135, 136, 137, 138, 139, 140, 141, 142, 143, 144, 145, 146, 147, 148, 149, 150, 151, 152, 158, 159, 160, 161, 162, 163, 164, 165, 166, 167, 168, 169, 170, 193, 194, 195, 196, 197, 198, 199, 200, 201, 183, 184, 185, 186, 187, 188, 189, 190, 191, 192, 171, 172, 173, 174, 175, 176, 177, 178, 179, 180, 181, 182, 202, 203, 204, 205, 206, 207] rfl rfl
set_option maxRecDepth 20000 in
theorem gX8_proof_X8_leastProp : GoodIn wsX8_proof (wsV RX8 271 RX8 yX8_leastProp wsX8_leastProp) := goodIn_app (goodIn_of _ (by decide +kernel)) ggX8_proof_X8_leastProp
set_option maxRecDepth 20000 in
theorem ggX8_proof_X2_standing : GoodIn wsX8_proof wsX2_standing := goodIn_r _ [68, 36, 33, 69, 70, 71, 31, 72, 73, 40, 74, 59, 9, 60, 75, 76, 77, 78, 79, 80, 81, 82, 83, 84, 85, 47, 46, 38, 86, 87, 88, 89, 90, 91, 92, 93, 94, 95, 96, 97, 98, 99, 100, 101, 102, 103, 104, 105, 106, 107, 108, 109, 110, 111, 112, 113, 114, 115, 116, 117, 118, 119, 120, 121, 122, 123, 124, 125, 126, 127, 128, 129, 130, 131, 132, 133, 134, 135, 136, 137, 138, 139, 140, 141, 51, 142, 58, 53, 143, 144, 145, 146, 183, 184, 185, 186, 187, 188, 189, 190, 191, 192, 171, 172, 173, 174, 175, 176, 177, 178, 179, 180, 181, 182, 202, 203, 204, 205, 206, 207] rfl rfl
set_option maxRecDepth 20000 in
theorem gX8_proof_X2_standing : GoodIn wsX8_proof (wsV RX8 231 RX2 yX2_standing wsX2_standing) := goodIn_app (goodIn_of _ (by decide +kernel)) ggX8_proof_X2_standing
set_option maxRecDepth 20000 in
theorem ggX8_proof_X8_has : GoodIn wsX8_proof wsX8_has := goodIn_r _ [60] rfl rfl
set_option maxRecDepth 20000 in
theorem gX8_proof_X8_has : GoodIn wsX8_proof (va_wsS RX8 220 yX8_has wsX8_has) := goodIn_app (goodIn_of _ (by decide +kernel)) ggX8_proof_X8_has
set_option maxRecDepth 20000 in
theorem ggX8_proof_X8_lay : GoodIn wsX8_proof wsX8_lay := goodIn_r _ [156, 1, 157, 158, 159, 160, 161, 162, 163, 164, 165, 166, 167, 168, 169, 170] rfl rfl
set_option maxRecDepth 20000 in
theorem gX8_proof_X8_lay : GoodIn wsX8_proof (wsV RX8 321 RX8 yX8_lay wsX8_lay) := goodIn_app (goodIn_of _ (by decide +kernel)) ggX8_proof_X8_lay
theorem dX8_proof_0 : decode cX8_proof 0 = .ok (.aload_n 0, 1) := by decide +kernel
theorem dX8_proof_1 : decode cX8_proof 1 = .ok (.iconst 0, 1) := by decide +kernel
theorem dX8_proof_2 : decode cX8_proof 2 = .ok (.putfield 102, 3) := by decide +kernel
theorem dX8_proof_5 : decode cX8_proof 5 = .ok (.aload_n 0, 1) := by decide +kernel
theorem dX8_proof_6 : decode cX8_proof 6 = .ok (.iload_n 1, 1) := by decide +kernel
theorem dX8_proof_7 : decode cX8_proof 7 = .ok (.invokevirtual 271, 3) := by decide +kernel
theorem dX8_proof_10 : decode cX8_proof 10 = .ok (.istore_n 2, 1) := by decide +kernel
theorem dX8_proof_11 : decode cX8_proof 11 = .ok (.iload_n 2, 1) := by decide +kernel
theorem dX8_proof_12 : decode cX8_proof 12 = .ok (.iconst (-1), 1) := by decide +kernel
theorem dX8_proof_13 : decode cX8_proof 13 = .ok (.if_icmp .ne 5, 3) := by decide +kernel
theorem dX8_proof_16 : decode cX8_proof 16 = .ok (.iconst (-1), 1) := by decide +kernel
theorem dX8_proof_17 : decode cX8_proof 17 = .ok (.ireturn, 1) := by decide +kernel
theorem dX8_proof_18 : decode cX8_proof 18 = .ok (.aload_n 0, 1) := by decide +kernel
theorem dX8_proof_19 : decode cX8_proof 19 = .ok (.getfield 44, 3) := by decide +kernel
theorem dX8_proof_22 : decode cX8_proof 22 = .ok (.iload_n 2, 1) := by decide +kernel
theorem dX8_proof_23 : decode cX8_proof 23 = .ok (.invokevirtual 231, 3) := by decide +kernel
theorem dX8_proof_26 : decode cX8_proof 26 = .ok (.istore_n 3, 1) := by decide +kernel
theorem dX8_proof_27 : decode cX8_proof 27 = .ok (.iconst 0, 1) := by decide +kernel
theorem dX8_proof_28 : decode cX8_proof 28 = .ok (.istore 4, 2) := by decide +kernel
theorem dX8_proof_30 : decode cX8_proof 30 = .ok (.iload 4, 2) := by decide +kernel
theorem dX8_proof_32 : decode cX8_proof 32 = .ok (.bipush 10, 2) := by decide +kernel
theorem dX8_proof_34 : decode cX8_proof 34 = .ok (.if_icmp .gt 60, 3) := by decide +kernel
theorem dX8_proof_37 : decode cX8_proof 37 = .ok (.iconst 0, 1) := by decide +kernel
theorem dX8_proof_38 : decode cX8_proof 38 = .ok (.istore 5, 2) := by decide +kernel
theorem dX8_proof_40 : decode cX8_proof 40 = .ok (.iload 5, 2) := by decide +kernel
theorem dX8_proof_42 : decode cX8_proof 42 = .ok (.aload_n 0, 1) := by decide +kernel
theorem dX8_proof_43 : decode cX8_proof 43 = .ok (.getfield 19, 3) := by decide +kernel
theorem dX8_proof_46 : decode cX8_proof 46 = .ok (.getfield 105, 3) := by decide +kernel
theorem dX8_proof_49 : decode cX8_proof 49 = .ok (.if_icmp .ge 39, 3) := by decide +kernel
theorem dX8_proof_52 : decode cX8_proof 52 = .ok (.iload_n 3, 1) := by decide +kernel
theorem dX8_proof_53 : decode cX8_proof 53 = .ok (.iload 5, 2) := by decide +kernel
theorem dX8_proof_55 : decode cX8_proof 55 = .ok (.invokestatic 220, 3) := by decide +kernel
theorem dX8_proof_58 : decode cX8_proof 58 = .ok (.ifCond .eq 24, 3) := by decide +kernel
theorem dX8_proof_61 : decode cX8_proof 61 = .ok (.aload_n 0, 1) := by decide +kernel
theorem dX8_proof_62 : decode cX8_proof 62 = .ok (.getfield 44, 3) := by decide +kernel
theorem dX8_proof_65 : decode cX8_proof 65 = .ok (.getfield 287, 3) := by decide +kernel
theorem dX8_proof_68 : decode cX8_proof 68 = .ok (.iload 5, 2) := by decide +kernel
theorem dX8_proof_70 : decode cX8_proof 70 = .ok (.iaload, 1) := by decide +kernel
theorem dX8_proof_71 : decode cX8_proof 71 = .ok (.iload 4, 2) := by decide +kernel
theorem dX8_proof_73 : decode cX8_proof 73 = .ok (.if_icmp .ne 9, 3) := by decide +kernel
theorem dX8_proof_76 : decode cX8_proof 76 = .ok (.aload_n 0, 1) := by decide +kernel
theorem dX8_proof_77 : decode cX8_proof 77 = .ok (.iload 5, 2) := by decide +kernel
theorem dX8_proof_79 : decode cX8_proof 79 = .ok (.invokevirtual 321, 3) := by decide +kernel
theorem dX8_proof_82 : decode cX8_proof 82 = .ok (.iinc 5 1, 3) := by decide +kernel
theorem dX8_proof_85 : decode cX8_proof 85 = .ok (.goto (-45), 3) := by decide +kernel
theorem dX8_proof_88 : decode cX8_proof 88 = .ok (.iinc 4 1, 3) := by decide +kernel
theorem dX8_proof_91 : decode cX8_proof 91 = .ok (.goto (-61), 3) := by decide +kernel
theorem dX8_proof_94 : decode cX8_proof 94 = .ok (.aload_n 0, 1) := by decide +kernel
theorem dX8_proof_95 : decode cX8_proof 95 = .ok (.getfield 102, 3) := by decide +kernel
theorem dX8_proof_98 : decode cX8_proof 98 = .ok (.ireturn, 1) := by decide +kernel
theorem dX8_lay_0 : decode cX8_lay 0 = .ok (.aload_n 0, 1) := by decide +kernel
theorem dX8_lay_1 : decode cX8_lay 1 = .ok (.getfield 102, 3) := by decide +kernel
theorem dX8_lay_4 : decode cX8_lay 4 = .ok (.aload_n 0, 1) := by decide +kernel
theorem dX8_lay_5 : decode cX8_lay 5 = .ok (.getfield 52, 3) := by decide +kernel
theorem dX8_lay_8 : decode cX8_lay 8 = .ok (.arraylength, 1) := by decide +kernel
theorem dX8_lay_9 : decode cX8_lay 9 = .ok (.if_icmp .ge 23, 3) := by decide +kernel
theorem dX8_lay_12 : decode cX8_lay 12 = .ok (.aload_n 0, 1) := by decide +kernel
theorem dX8_lay_13 : decode cX8_lay 13 = .ok (.getfield 52, 3) := by decide +kernel
theorem dX8_lay_16 : decode cX8_lay 16 = .ok (.aload_n 0, 1) := by decide +kernel
theorem dX8_lay_17 : decode cX8_lay 17 = .ok (.getfield 102, 3) := by decide +kernel
theorem dX8_lay_20 : decode cX8_lay 20 = .ok (.iload_n 1, 1) := by decide +kernel
theorem dX8_lay_21 : decode cX8_lay 21 = .ok (.iastore, 1) := by decide +kernel
theorem dX8_lay_22 : decode cX8_lay 22 = .ok (.aload_n 0, 1) := by decide +kernel
theorem dX8_lay_23 : decode cX8_lay 23 = .ok (.dup, 1) := by decide +kernel
theorem dX8_lay_24 : decode cX8_lay 24 = .ok (.getfield 102, 3) := by decide +kernel
theorem dX8_lay_27 : decode cX8_lay 27 = .ok (.iconst 1, 1) := by decide +kernel
theorem dX8_lay_28 : decode cX8_lay 28 = .ok (.iadd, 1) := by decide +kernel
theorem dX8_lay_29 : decode cX8_lay 29 = .ok (.putfield 102, 3) := by decide +kernel
theorem dX8_lay_32 : decode cX8_lay 32 = .ok (.return_, 1) := by decide +kernel
theorem in_X8_perils_X4 : ∀ w ∈ wsX40, w ∈ wsX8_perils := fun _ h => List.mem_cons_of_mem _ (List.mem_append_left _ (List.mem_append_left _ (List.mem_append_left _ (List.mem_append_left _ (List.mem_append_left _ (List.mem_append_right _ h))))))
theorem in_X8_perils_X8 : ∀ w ∈ wsX80, w ∈ wsX8_perils := fun _ h => List.mem_cons_of_mem _ (List.mem_append_left _ (List.mem_append_left _ (List.mem_append_left _ (List.mem_append_left _ (List.mem_append_right _ h)))))
theorem in_X8_mend_X8 : ∀ w ∈ wsX80, w ∈ wsX8_mend := fun _ h => List.mem_cons_of_mem _ (List.mem_append_left _ (List.mem_append_left _ (List.mem_append_left _ (List.mem_append_left _ (List.mem_append_left _ (List.mem_append_right _ h))))))
theorem in_X8_mend_X4 : ∀ w ∈ wsX40, w ∈ wsX8_mend := fun _ h => List.mem_cons_of_mem _ (List.mem_append_left _ (List.mem_append_left _ (List.mem_append_left _ (List.mem_append_left _ (List.mem_append_right _ h)))))
theorem in_X8_lay_X8 : ∀ w ∈ wsX80, w ∈ wsX8_lay := fun _ h => List.mem_cons_of_mem _ (List.mem_append_right _ h)
theorem in_X8_proof_X8 : ∀ w ∈ wsX80, w ∈ wsX8_proof := fun _ h => List.mem_cons_of_mem _ (List.mem_append_left _ (List.mem_append_left _ (List.mem_append_left _ (List.mem_append_left _ (List.mem_append_left _ (List.mem_append_right _ h))))))
theorem in_X8_proof_X5 : ∀ w ∈ wsX50, w ∈ wsX8_proof := fun _ h => List.mem_cons_of_mem _ (List.mem_append_left _ (List.mem_append_left _ (List.mem_append_left _ (List.mem_append_left _ (List.mem_append_right _ h)))))
theorem in_X8_proof_X2 : ∀ w ∈ wsX20, w ∈ wsX8_proof := fun _ h => List.mem_cons_of_mem _ (List.mem_append_left _ (List.mem_append_left _ (List.mem_append_left _ (List.mem_append_right _ h))))
theorem in_X8_fillOutcomes_X8 : ∀ w ∈ wsX80, w ∈ wsX8_fillOutcomes := fun _ h => List.mem_cons_of_mem _ (List.mem_append_left _ (List.mem_append_left _ (List.mem_append_left _ (List.mem_append_left _ (List.mem_append_right _ h)))))
theorem in_X8_fillOutcomes_X4 : ∀ w ∈ wsX40, w ∈ wsX8_fillOutcomes := fun _ h => List.mem_cons_of_mem _ (List.mem_append_left _ (List.mem_append_left _ (List.mem_append_left _ (List.mem_append_left _ (List.mem_append_left _ (List.mem_append_right _ h))))))
theorem in_X8_firstGain_X8 : ∀ w ∈ wsX80, w ∈ wsX8_firstGain := fun _ h => List.mem_cons_of_mem _ (List.mem_append_right _ h)
theorem in_X8_otherGain_X8 : ∀ w ∈ wsX80, w ∈ wsX8_otherGain := fun _ h => List.mem_cons_of_mem _ (List.mem_append_right _ h)
theorem in_X8_isRest_X8 : ∀ w ∈ wsX80, w ∈ wsX8_isRest := fun _ h => List.mem_cons_of_mem _ (List.mem_append_left _ (List.mem_append_left _ (List.mem_append_left _ (List.mem_append_right _ h))))
theorem in_X8_isRest_X5 : ∀ w ∈ wsX50, w ∈ wsX8_isRest := fun _ h => List.mem_cons_of_mem _ (List.mem_append_left _ (List.mem_append_left _ (List.mem_append_right _ h)))
theorem in_X8_counsels_X8 : ∀ w ∈ wsX80, w ∈ wsX8_counsels := fun _ h => List.mem_cons_of_mem _ (List.mem_append_left _ (List.mem_append_left _ (List.mem_append_left _ (List.mem_append_left _ (List.mem_append_left _ (List.mem_append_right _ h))))))
theorem in_X8_counsels_X4 : ∀ w ∈ wsX40, w ∈ wsX8_counsels := fun _ h => List.mem_cons_of_mem _ (List.mem_append_left _ (List.mem_append_left _ (List.mem_append_left _ (List.mem_append_left _ (List.mem_append_right _ h)))))
theorem in_X5_ahead_X5 : ∀ w ∈ wsX50, w ∈ wsX5_ahead := fun _ h => List.mem_cons_of_mem _ (List.mem_append_right _ h)
theorem in_X8_path_X8 : ∀ w ∈ wsX80, w ∈ wsX8_path := fun _ h => List.mem_cons_of_mem _ (List.mem_append_left _ (List.mem_append_left _ (List.mem_append_left _ (List.mem_append_right _ h))))
theorem in_X8_path_X4 : ∀ w ∈ wsX40, w ∈ wsX8_path := fun _ h => List.mem_cons_of_mem _ (List.mem_append_left _ (List.mem_append_left _ (List.mem_append_right _ h)))
theorem in_X2_weaken_X2 : ∀ w ∈ wsX20, w ∈ wsX2_weaken := fun _ h => List.mem_cons_of_mem _ (List.mem_append_right _ h)
theorem in_X8_shock_X8 : ∀ w ∈ wsX80, w ∈ wsX8_shock := fun _ h => List.mem_cons_of_mem _ (List.mem_append_left _ (List.mem_append_left _ (List.mem_append_left _ (List.mem_append_left _ (List.mem_append_left _ (List.mem_append_right _ h))))))
theorem in_X8_shock_X4 : ∀ w ∈ wsX40, w ∈ wsX8_shock := fun _ h => List.mem_cons_of_mem _ (List.mem_append_left _ (List.mem_append_left _ (List.mem_append_left _ (List.mem_append_left _ (List.mem_append_right _ h)))))
theorem in_X8_brings_X8 : ∀ w ∈ wsX80, w ∈ wsX8_brings := fun _ h => List.mem_cons_of_mem _ (List.mem_append_left _ (List.mem_append_left _ (List.mem_append_left _ (List.mem_append_left _ (List.mem_append_left _ (List.mem_append_right _ h))))))
theorem in_X8_brings_X4 : ∀ w ∈ wsX40, w ∈ wsX8_brings := fun _ h => List.mem_cons_of_mem _ (List.mem_append_left _ (List.mem_append_left _ (List.mem_append_left _ (List.mem_append_left _ (List.mem_append_right _ h)))))
theorem in_X8_gaps_X8 : ∀ w ∈ wsX80, w ∈ wsX8_gaps := fun _ h => List.mem_cons_of_mem _ (List.mem_append_left _ (List.mem_append_left _ (List.mem_append_left _ (List.mem_append_right _ h))))
theorem in_X8_gaps_X5 : ∀ w ∈ wsX50, w ∈ wsX8_gaps := fun _ h => List.mem_cons_of_mem _ (List.mem_append_left _ (List.mem_append_left _ (List.mem_append_right _ h)))
theorem in_X8_gaps_X4 : ∀ w ∈ wsX40, w ∈ wsX8_gaps := fun _ h => List.mem_cons_of_mem _ (List.mem_append_left _ (List.mem_append_right _ h))
theorem in_X8_best_X8 : ∀ w ∈ wsX80, w ∈ wsX8_best := fun _ h => List.mem_cons_of_mem _ (List.mem_append_left _ (List.mem_append_left _ (List.mem_append_left _ (List.mem_append_left _ (List.mem_append_left _ (List.mem_append_right _ h))))))
theorem in_X8_best_X5 : ∀ w ∈ wsX50, w ∈ wsX8_best := fun _ h => List.mem_cons_of_mem _ (List.mem_append_left _ (List.mem_append_left _ (List.mem_append_left _ (List.mem_append_left _ (List.mem_append_right _ h)))))
theorem in_X8_best_X2 : ∀ w ∈ wsX20, w ∈ wsX8_best := fun _ h => List.mem_cons_of_mem _ (List.mem_append_left _ (List.mem_append_left _ (List.mem_append_left _ (List.mem_append_right _ h))))
set_option maxHeartbeats 4000000 in
set_option maxRecDepth 100000 in
theorem s_X8_perils_0 (l : Launch) (B0 : Nat) (adK adV : Nat → Nat) (D : va_G) (cy : Nat → ClassId) (ad : Nat → Nat) (fr0 : Nat → va_E) (tx : Int32) (rby : Int32) (rnx : Int32) (f : Nat → va_E) (hT : TYx ad cy fr0 tx rby rnx f) (p1 : Int32) (p2 : Int32) (sz : Nat) : TtI l yX8_perils wsX8_perils 6 146 [.ref (ad 0), .int p1, .int p2] B0 adK adV D cy ad f sz (fun (r : Int32) (g : Nat → va_E) => True ∧ (TYx ad cy fr0 tx rby rnx g)) := by
  refine TtI.of (cc := cX8_perils) (maxL := 6) (ty := .int) (own := RX8) (by decide) rfl (Nat.le_of_ble_eq_true rfl) rfl ?_
  intro p e s m below meth c A ls hx hb hr hml hts hown hlk hK hE hP hD hS hA hAB hl
  have hl : lv_has ls 6 [(0, .ref (ad 0)), (1, .int p1), (2, .int p2)] := hl
  refine st0 (fun H locs hP hS => ?_) hP hS
  have j47 : ∀ (N : Nat) (f : Nat → va_E) (H : Heap) (locs : List Loc) (ls : Array Slot) (v47_l5 : Int32) (v47_l4 : Int32) (v47_l3 : Int32), (4097 - v47_l5.toInt ≤ (N : Int)) → (0 ≤ v47_l5.toInt ∧ v47_l5.toInt ≤ 4096) → (0 ≤ v47_l3.toInt ∧ v47_l3.toInt ≤ 4095) → (0 ≤ p1.toInt ∧ p1.toInt ≤ 9) → (0 ≤ p2.toInt ∧ p2.toInt ≤ 1) → (TYx ad cy fr0 tx rby rnx f) → (va_P D vwCl (wl ad f) H) → (va_D A (wl ad f)) → (va_S A s.heap H locs) → (lv_has ls 6 [(5, .int v47_l5), (4, .int v47_l4), (3, .int v47_l3), (0, .ref (ad 0)), (1, .int p1), (2, .int p2)]) → W p l e (rmO 6 146 0 0) s m ([.ref (ad 0), .int p1, .int p2] : List Value).toArray below meth c H locs 0 0 (MQ below (va_Qi (fun (r : Int32) (g : Nat → va_E) => True ∧ (TYx ad cy fr0 tx rby rnx g)) (fun g t => PstT D ad g t) A) ([.ref (ad 0), .int p1, .int p2] : List Value).toArray s 0 0 A) (F0 m 47 ls []) := by
    intro N
    induction N with
    | zero => intro f H locs ls v47_l5 v47_l4 v47_l3 hN hv47_l5 hv47_l3 hv47_l1 hv47_l2 hT hP hD hS hl; exact absurd hN (by omega)
    | succ N ih47 =>
      intro f H locs ls v47_l5 v47_l4 v47_l3 hN hv47_l5 hv47_l3 hv47_l1 hv47_l2 hT hP hD hS hl
      have j88 : ∀ (f : Nat → va_E) (H : Heap) (locs : List Loc) (ls : Array Slot) (v88_l4 : Int32), (0 ≤ v47_l5.toInt ∧ v47_l5.toInt ≤ 4095) → (0 ≤ v47_l3.toInt ∧ v47_l3.toInt ≤ 4095) → (0 ≤ p1.toInt ∧ p1.toInt ≤ 9) → (0 ≤ p2.toInt ∧ p2.toInt ≤ 1) → (TYx ad cy fr0 tx rby rnx f) → (va_P D vwCl (wl ad f) H) → (va_D A (wl ad f)) → (va_S A s.heap H locs) → (lv_has ls 6 [(5, .int v47_l5), (4, .int v88_l4), (3, .int v47_l3), (0, .ref (ad 0)), (1, .int p1), (2, .int p2)]) → W p l e (rmO 6 146 0 0) s m ([.ref (ad 0), .int p1, .int p2] : List Value).toArray below meth c H locs 0 0 (MQ below (va_Qi (fun (r : Int32) (g : Nat → va_E) => True ∧ (TYx ad cy fr0 tx rby rnx g)) (fun g t => PstT D ad g t) A) ([.ref (ad 0), .int p1, .int p2] : List Value).toArray s 0 0 A) (F0 m 88 ls []) := by
        intro f H locs ls v88_l4 hv88_l5 hv88_l3 hv88_l1 hv88_l2 hT hP hD hS hl
        obtain ⟨x1, ex1⟩ : ∃ q : Int32, q = v47_l5 + Int32.ofInt (1) := ⟨_, rfl⟩
        refine lv_iinc (v := x1) (lv' := [(5, .int x1), (4, .int v88_l4), (3, .int v47_l3), (0, .ref (ad 0)), (1, .int p1), (2, .int p2)]) hx hb dX8_perils_88 hl (k := 0) rfl ex1.symm (by decide) rfl (fun ls hl => ?_)
        have hx1 := r_inc ex1 (by decide) (by omega) (by omega)
        refine lv_goto (tgt := 47) hx hb dX8_perils_91 (by decide) ?_
        exact ih47 f H locs ls x1 v88_l4 v47_l3 (by omega) (by omega) (by omega) (by omega) (by omega) hT hP hD hS (lv_sub hl [0, 1, 2, 3, 4, 5] rfl)
      refine lv_iload hx hb dX8_perils_47 (lv_at hl 0 rfl) ?_
      refine lv_iload_n hx hb dX8_perils_49 rfl (lv_at hl 2 rfl) ?_
      refine lv_icmp_gt (tgt := 94) hx hb dX8_perils_50 (by decide) (fun c2 => ?_) (fun c2 => ?_)
      · have kc2 := c_lt c2
        refine lv_iload hx hb dX8_perils_94 (lv_at hl 1 rfl) ?_
        exact tI hx hb hr hlk rfl hP hS ⟨trivial, hT⟩ dX8_perils_96
      · have kc2 := c_nlt c2
        refine lv_iload hx hb dX8_perils_53 (lv_at hl 0 rfl) ?_
        refine lv_iload_n hx hb dX8_perils_55 rfl (lv_at hl 2 rfl) ?_
        refine lv_iconst (v := (-1)) hx hb dX8_perils_56 (by decide) ?_
        refine lv_ixor hx hb dX8_perils_57 ?_
        refine lv_topi (fun x3 ex3 => ?_)
        refine lv_iand hx hb dX8_perils_58 ?_
        refine lv_topi (fun x4 ex4 => ?_)
        have hx4 := r_andl ex4 (by omega)
        have ttl_0 := tl_0
        refine lv_if_ne (tgt := 88) hx hb dX8_perils_59 (by decide) (fun c5 => ?_) (fun c5 => ?_)
        · have kc5 := c_ne c5
          exact j88 f H locs ls v47_l4 (by omega) (by omega) (by omega) (by omega) hT hP hD hS (lv_sub hl [0, 1, 2, 3, 4, 5] rfl)
        · have kc5 := c_eq c5
          refine lv_iload hx hb dX8_perils_62 (lv_at hl 0 rfl) ?_
          refine tSI (As := [.int v47_l5]) (rest := []) ⟨hx, hb, hml, hown, hts⟩ hK hE hP hD hS hA hAB (s_J6_bitCount_0f7a4_0 l B0 adK adV D cy ad f v47_l5 _) (va_cwS 1 hts gX8_perils_J6_bitCount_0f7a4 rfl rfl rfl (by decide +kernel) ⟨Nat.le_of_ble_eq_true rfl, Nat.le_of_ble_eq_true rfl⟩) rfl hl.1 rfl (Nat.le_of_ble_eq_true rfl) dX8_perils_64 ⟨Nat.le_of_ble_eq_true rfl, Nat.le_of_ble_eq_true rfl⟩ (fun r g H locs hw hP hD hS => ?_)
          obtain ⟨hrs, rfl⟩ := hw
          obtain ⟨x6, rfl⟩ : ∃ q, q = r := ⟨_, rfl⟩
          have h7 := hrs
          refine lv_iload_n hx hb dX8_perils_67 rfl (lv_at hl 5 rfl) ?_
          refine lv_iconst (v := 1) hx hb dX8_perils_68 (by decide) ?_
          have ttl_1 := tl_1
          refine lv_iadd hx hb dX8_perils_69 ?_
          refine lv_topi (fun x8 ex8 => ?_)
          have hx8 := r_add ex8 (by omega) (by omega)
          refine lv_icmp_ne (tgt := 88) hx hb dX8_perils_70 (by decide) (fun c9 => ?_) (fun c9 => ?_)
          · have kc9 := c_ne c9
            exact j88 f H locs ls v47_l4 (by omega) (by omega) (by omega) (by omega) hT hP hD hS (lv_sub hl [0, 1, 2, 3, 4, 5] rfl)
          · have kc9 := c_eq c9
            refine lv_aload_n hx hb dX8_perils_73 rfl (lv_at hl 3 rfl) ?_
            refine lv_iload_n hx hb dX8_perils_74 rfl (lv_at hl 4 rfl) ?_
            refine lv_iload_n hx hb dX8_perils_75 rfl (lv_at hl 2 rfl) ?_
            refine lv_iload hx hb dX8_perils_76 (lv_at hl 0 rfl) ?_
            refine lv_ixor hx hb dX8_perils_78 ?_
            refine lv_topi (fun x10 ex10 => ?_)
            have hx10 := r_xor (k := 12) (K := 4096) ex10 (by decide) (by decide) (by omega) (by omega) (by omega) (by omega)
            obtain ⟨t11, x13, x14, e16, h12, h15⟩ := (show okX8 ad tx 0 (f 0) from hT.1 0 (by decide))
            refine tVI (As := [.int p1, .int x10]) (rest := []) (i := 0) ⟨hx, hb, hml, hown, hts⟩ hK hE hP hD hS hA hAB (s_X8_isUp_0 l B0 adK adV D cy ad fr0 tx rby rnx f hT p1 (by omega) x10 (by omega) _) (cwV 2 hts gX8_perils_X8_isUp rfl rfl rfl (by decide +kernel) ⟨Nat.le_of_ble_eq_true rfl, Nat.le_of_ble_eq_true rfl⟩) (by decide) 8 e16 rfl rfl hl.1 rfl (Nat.le_of_ble_eq_true rfl) dX8_perils_79 ⟨Nat.le_of_ble_eq_true rfl, Nat.le_of_ble_eq_true rfl⟩ (fun r f H locs hw hP hD hS => ?_)
            obtain ⟨hrs, hT⟩ := hw
            obtain ⟨x17, rfl⟩ : ∃ q, q = r := ⟨_, rfl⟩
            rcases hrs with rfl | rfl
            · refine lv_if_ne (tgt := 88) hx hb dX8_perils_82 (by decide) (fun _ => ?_) (fun c => absurd c (by decide))
              exact j88 f H locs ls v47_l4 (by omega) (by omega) (by omega) (by omega) hT hP hD hS (lv_sub hl [0, 1, 2, 3, 4, 5] rfl)
            · refine lv_if_ne (tgt := 88) hx hb dX8_perils_82 (by decide) (fun c => absurd (by decide) c) (fun _ => ?_)
              obtain ⟨x18, ex18⟩ : ∃ q : Int32, q = v47_l4 + Int32.ofInt (1) := ⟨_, rfl⟩
              refine lv_iinc (v := x18) (lv' := [(4, .int x18), (5, .int v47_l5), (3, .int v47_l3), (0, .ref (ad 0)), (1, .int p1), (2, .int p2)]) hx hb dX8_perils_85 hl (k := 1) rfl ex18.symm (by decide) rfl (fun ls hl => ?_)
              exact j88 f H locs ls x18 (by omega) (by omega) (by omega) (by omega) hT hP hD hS (lv_sub hl [1, 0, 2, 3, 4, 5] rfl)
  refine lv_aload_n hx hb dX8_perils_0 rfl (lv_at hl 0 rfl) ?_
  obtain ⟨t19, x21, x22, e24, h20, h23⟩ := (show okX8 ad tx 0 (f 0) from hT.1 0 (by decide))
  refine tVV (As := []) (rest := []) (i := 0) ⟨hx, hb, hml, hown, hts⟩ hK hE hP hD hS hA hAB (s_X8_look_0 l B0 adK adV D cy ad fr0 tx rby rnx f hT _) (cwV 0 hts gX8_perils_X8_look rfl rfl rfl (by decide +kernel) ⟨Nat.le_of_ble_eq_true rfl, Nat.le_of_ble_eq_true rfl⟩) (by decide) 8 e24 rfl rfl hl.1 rfl (Nat.le_of_ble_eq_true rfl) dX8_perils_1 ⟨Nat.le_of_ble_eq_true rfl, Nat.le_of_ble_eq_true rfl⟩ (fun f H locs hw hP hD hS => ?_)
  obtain ⟨hrs, hT⟩ := hw
  refine lv_aload_n hx hb dX8_perils_4 rfl (lv_at hl 0 rfl) ?_
  obtain ⟨t25, x27, x28, e30, h26, h29⟩ := (show okX8 ad tx 0 (f 0) from hT.1 0 (by decide))
  refine tVR (As := []) (rest := []) (i := 0) ⟨hx, hb, hml, hown, hts⟩ hK hE hP hD hS hA hAB (s_X8_now_0 l B0 adK adV D cy ad fr0 tx rby rnx f hT _) (cwV 0 hts gX8_perils_X8_now rfl rfl rfl (by decide +kernel) ⟨Nat.le_of_ble_eq_true rfl, Nat.le_of_ble_eq_true rfl⟩) (by decide) 8 e30 rfl rfl hl.1 rfl (Nat.le_of_ble_eq_true rfl) dX8_perils_5 ⟨Nat.le_of_ble_eq_true rfl, Nat.le_of_ble_eq_true rfl⟩ (fun ra g H locs hw hra hP hD hS => ?_)
  obtain ⟨hrs, rfl⟩ := hw
  obtain ⟨t31, h32, rfl⟩ := hra
  obtain ⟨x33, x35, x36, x37, e38, h34⟩ := (ty_state hT h32)
  refine va_get (D := D) (cl := vwCl) (ci := 4) (v := .int x33) (C := RX4) (T := TX4) (N := 5) hx hb hts in_X8_perils_X4 hown hK hP t31 (wl_at (x_lt (x_state0 h32)) e38) rfl 1 (by decide) (hts (.fieldLink RX8 145 "EightReasons$State" "tied" "I") (List.mem_of_getElem? (i := 1) rfl)) (fun _ h9 => h9) rfl dX8_perils_8 ?_
  refine lv_istore_n (lv' := [(3, .int x33), (0, .ref (ad 0)), (1, .int p1), (2, .int p2)]) hx hb dX8_perils_11 rfl hl (by decide) rfl (fun ls hl => ?_)
  refine lv_iload_n hx hb dX8_perils_12 rfl (lv_at hl 3 rfl) ?_
  refine tSI (As := [.int p2]) (rest := []) ⟨hx, hb, hml, hown, hts⟩ hK hE hP hD hS hA hAB (s_X8_isZeroOrOne_0 l B0 adK adV D cy ad f p2 _) (va_cwS 1 hts gX8_perils_X8_isZeroOrOne rfl rfl rfl (by decide +kernel) ⟨Nat.le_of_ble_eq_true rfl, Nat.le_of_ble_eq_true rfl⟩) rfl hl.1 rfl (Nat.le_of_ble_eq_true rfl) dX8_perils_13 ⟨Nat.le_of_ble_eq_true rfl, Nat.le_of_ble_eq_true rfl⟩ (fun r g H locs hw hP hD hS => ?_)
  obtain ⟨hrs, rfl⟩ := hw
  obtain ⟨x39, rfl⟩ : ∃ q, q = r := ⟨_, rfl⟩
  rcases hrs with ⟨rfl, h40, h41⟩ | rfl
  · refine lv_if_eq (tgt := 39) hx hb dX8_perils_16 (by decide) (fun c => absurd c (by decide)) (fun _ => ?_)
    refine lv_aload_n hx hb dX8_perils_19 rfl (lv_at hl 1 rfl) ?_
    refine va_get (D := D) (cl := vwCl) (ci := 8) (v := .ref (ad t25)) (C := RX8) (T := TX8) (N := 13) hx hb hts in_X8_perils_X8 hown hK hP 0 (wl_at (by decide) e30) rfl 1 (by decide) (hts (.fieldLink RX8 19 "EightReasons" "told" "LEightReasons$Suit;") (List.mem_of_getElem? (i := 2) rfl)) (fun _ h9 => h9) rfl dX8_perils_20 ?_
    refine lv_iload_n hx hb dX8_perils_23 rfl (lv_at hl 2 rfl) ?_
    obtain ⟨x42, x44, x45, x47, x48, e49, h43, h46⟩ := (ty_suit hT h26)
    refine tVI (As := [.int p1]) (rest := []) (i := t25) ⟨hx, hb, hml, hown, hts⟩ hK hE hP hD hS hA hAB (s_X5_isClaim_0 l B0 adK adV D cy ad fr0 tx rby rnx f hT t25 h26 p1 _) (cwV 1 hts gX8_perils_X5_isClaim rfl rfl rfl (by decide +kernel) ⟨Nat.le_of_ble_eq_true rfl, Nat.le_of_ble_eq_true rfl⟩) (x_lt (x_suit0 h26)) 5 e49 rfl rfl hl.1 rfl (Nat.le_of_ble_eq_true rfl) dX8_perils_24 ⟨Nat.le_of_ble_eq_true rfl, Nat.le_of_ble_eq_true rfl⟩ (fun r g H locs hw hP hD hS => ?_)
    obtain ⟨hrs, rfl⟩ := hw
    obtain ⟨x50, rfl⟩ : ∃ q, q = r := ⟨_, rfl⟩
    rcases hrs with ⟨rfl, h51, h52⟩ | rfl
    · refine lv_if_eq (tgt := 39) hx hb dX8_perils_27 (by decide) (fun c => absurd c (by decide)) (fun _ => ?_)
      refine lv_aload_n hx hb dX8_perils_30 rfl (lv_at hl 1 rfl) ?_
      refine lv_iload_n hx hb dX8_perils_31 rfl (lv_at hl 2 rfl) ?_
      refine lv_iload_n hx hb dX8_perils_32 rfl (lv_at hl 0 rfl) ?_
      refine tVI (As := [.int p1, .int x33]) (rest := []) (i := 0) ⟨hx, hb, hml, hown, hts⟩ hK hE hP hD hS hA hAB (s_X8_isUp_0 l B0 adK adV D cy ad fr0 tx rby rnx f hT p1 (by omega) x33 (by omega) _) (cwV 2 hts gX8_perils_X8_isUp rfl rfl rfl (by decide +kernel) ⟨Nat.le_of_ble_eq_true rfl, Nat.le_of_ble_eq_true rfl⟩) (by decide) 8 e30 rfl rfl hl.1 rfl (Nat.le_of_ble_eq_true rfl) dX8_perils_33 ⟨Nat.le_of_ble_eq_true rfl, Nat.le_of_ble_eq_true rfl⟩ (fun r f H locs hw hP hD hS => ?_)
      obtain ⟨hrs, hT⟩ := hw
      obtain ⟨x53, rfl⟩ : ∃ q, q = r := ⟨_, rfl⟩
      rcases hrs with rfl | rfl
      · refine lv_if_ne (tgt := 41) hx hb dX8_perils_36 (by decide) (fun _ => ?_) (fun c => absurd c (by decide))
        refine lv_iconst (v := 0) hx hb dX8_perils_41 (by decide) ?_
        refine lv_istore (lv' := [(4, .int 0), (3, .int x33), (0, .ref (ad 0)), (1, .int p1), (2, .int p2)]) hx hb dX8_perils_42 hl (by decide) rfl (fun ls hl => ?_)
        refine lv_iconst (v := 0) hx hb dX8_perils_44 (by decide) ?_
        refine lv_istore (lv' := [(5, .int 0), (4, .int 0), (3, .int x33), (0, .ref (ad 0)), (1, .int p1), (2, .int p2)]) hx hb dX8_perils_45 hl (by decide) rfl (fun ls hl => ?_)
        have ttl_0 := tl_0
        exact j47 (Int.toNat (4097 - (0 : Int32).toInt)) f H locs ls (0 : Int32) (0 : Int32) x33 (by omega) (by omega) (by omega) (by omega) (by omega) hT hP hD hS (lv_sub hl [0, 1, 2, 3, 4, 5] rfl)
      · refine lv_if_ne (tgt := 41) hx hb dX8_perils_36 (by decide) (fun c => absurd (by decide) c) (fun _ => ?_)
        refine lv_iconst (v := (-1)) hx hb dX8_perils_39 (by decide) ?_
        have ttl_m1 := tl_m1
        exact tI hx hb hr hlk rfl hP hS ⟨trivial, hT⟩ dX8_perils_40
    · refine lv_if_eq (tgt := 39) hx hb dX8_perils_27 (by decide) (fun _ => ?_) (fun c => absurd (by decide) c)
      refine lv_iconst (v := (-1)) hx hb dX8_perils_39 (by decide) ?_
      have ttl_m1 := tl_m1
      exact tI hx hb hr hlk rfl hP hS ⟨trivial, hT⟩ dX8_perils_40
  · refine lv_if_eq (tgt := 39) hx hb dX8_perils_16 (by decide) (fun _ => ?_) (fun c => absurd (by decide) c)
    refine lv_iconst (v := (-1)) hx hb dX8_perils_39 (by decide) ?_
    have ttl_m1 := tl_m1
    exact tI hx hb hr hlk rfl hP hS ⟨trivial, hT⟩ dX8_perils_40
set_option maxHeartbeats 4000000 in
set_option maxRecDepth 100000 in
theorem s_X8_mend_0 (l : Launch) (B0 : Nat) (adK adV : Nat → Nat) (D : va_G) (cy : Nat → ClassId) (ad : Nat → Nat) (fr0 : Nat → va_E) (tx : Int32) (rby : Int32) (rnx : Int32) (f : Nat → va_E) (hT : TYx ad cy fr0 tx rby rnx f) (p1 : Int32) (p2 : Int32) (sz : Nat) : TtI l yX8_mend wsX8_mend 6 151 [.ref (ad 0), .int p1, .int p2] B0 adK adV D cy ad f sz (fun (r : Int32) (g : Nat → va_E) => (-1 ≤ r.toInt ∧ r.toInt ≤ 4095) ∧ (TYx ad cy fr0 tx rby rnx g)) := by
  refine TtI.of (cc := cX8_mend) (maxL := 4) (ty := .int) (own := RX8) (by decide) rfl (Nat.le_of_ble_eq_true rfl) rfl ?_
  intro p e s m below meth c A ls hx hb hr hml hts hown hlk hK hE hP hD hS hA hAB hl
  have hl : lv_has ls 4 [(0, .ref (ad 0)), (1, .int p1), (2, .int p2)] := hl
  refine st0 (fun H locs hP hS => ?_) hP hS
  refine lv_aload_n hx hb dX8_mend_0 rfl (lv_at hl 0 rfl) ?_
  obtain ⟨t1, x3, x4, e6, h2, h5⟩ := (show okX8 ad tx 0 (f 0) from hT.1 0 (by decide))
  refine va_get (D := D) (cl := vwCl) (ci := 8) (v := .ref (ad t1)) (C := RX8) (T := TX8) (N := 13) hx hb hts in_X8_mend_X8 hown hK hP 0 (wl_at (by decide) e6) rfl 1 (by decide) (hts (.fieldLink RX8 19 "EightReasons" "told" "LEightReasons$Suit;") (List.mem_of_getElem? (i := 1) rfl)) (fun _ h9 => h9) rfl dX8_mend_1 ?_
  refine lv_iload_n hx hb dX8_mend_4 rfl (lv_at hl 1 rfl) ?_
  obtain ⟨x7, x9, x10, x12, x13, e14, h8, h11⟩ := (ty_suit hT h2)
  refine tVI (As := [.int p1]) (rest := []) (i := t1) ⟨hx, hb, hml, hown, hts⟩ hK hE hP hD hS hA hAB (s_X5_isClaim_0 l B0 adK adV D cy ad fr0 tx rby rnx f hT t1 h2 p1 _) (cwV 1 hts gX8_mend_X5_isClaim rfl rfl rfl (by decide +kernel) ⟨Nat.le_of_ble_eq_true rfl, Nat.le_of_ble_eq_true rfl⟩) (x_lt (x_suit0 h2)) 5 e14 rfl rfl hl.1 rfl (Nat.le_of_ble_eq_true rfl) dX8_mend_5 ⟨Nat.le_of_ble_eq_true rfl, Nat.le_of_ble_eq_true rfl⟩ (fun r g H locs hw hP hD hS => ?_)
  obtain ⟨hrs, rfl⟩ := hw
  obtain ⟨x15, rfl⟩ : ∃ q, q = r := ⟨_, rfl⟩
  rcases hrs with ⟨rfl, h16, h17⟩ | rfl
  · refine lv_if_eq (tgt := 18) hx hb dX8_mend_8 (by decide) (fun c => absurd c (by decide)) (fun _ => ?_)
    refine lv_iload_n hx hb dX8_mend_11 rfl (lv_at hl 2 rfl) ?_
    refine tSI (As := [.int p2]) (rest := []) ⟨hx, hb, hml, hown, hts⟩ hK hE hP hD hS hA hAB (s_X8_isZeroOrOne_0 l B0 adK adV D cy ad f p2 _) (va_cwS 1 hts gX8_mend_X8_isZeroOrOne rfl rfl rfl (by decide +kernel) ⟨Nat.le_of_ble_eq_true rfl, Nat.le_of_ble_eq_true rfl⟩) rfl hl.1 rfl (Nat.le_of_ble_eq_true rfl) dX8_mend_12 ⟨Nat.le_of_ble_eq_true rfl, Nat.le_of_ble_eq_true rfl⟩ (fun r g H locs hw hP hD hS => ?_)
    obtain ⟨hrs, rfl⟩ := hw
    obtain ⟨x18, rfl⟩ : ∃ q, q = r := ⟨_, rfl⟩
    rcases hrs with ⟨rfl, h19, h20⟩ | rfl
    · refine lv_if_ne (tgt := 20) hx hb dX8_mend_15 (by decide) (fun _ => ?_) (fun c => absurd c (by decide))
      refine lv_aload_n hx hb dX8_mend_20 rfl (lv_at hl 0 rfl) ?_
      refine tVV (As := []) (rest := []) (i := 0) ⟨hx, hb, hml, hown, hts⟩ hK hE hP hD hS hA hAB (s_X8_look_0 l B0 adK adV D cy ad fr0 tx rby rnx f hT _) (cwV 0 hts gX8_mend_X8_look rfl rfl rfl (by decide +kernel) ⟨Nat.le_of_ble_eq_true rfl, Nat.le_of_ble_eq_true rfl⟩) (by decide) 8 e6 rfl rfl hl.1 rfl (Nat.le_of_ble_eq_true rfl) dX8_mend_21 ⟨Nat.le_of_ble_eq_true rfl, Nat.le_of_ble_eq_true rfl⟩ (fun f H locs hw hP hD hS => ?_)
      obtain ⟨hrs, hT⟩ := hw
      refine lv_aload_n hx hb dX8_mend_24 rfl (lv_at hl 0 rfl) ?_
      obtain ⟨t21, x23, x24, e26, h22, h25⟩ := (show okX8 ad tx 0 (f 0) from hT.1 0 (by decide))
      refine tVR (As := []) (rest := []) (i := 0) ⟨hx, hb, hml, hown, hts⟩ hK hE hP hD hS hA hAB (s_X8_now_0 l B0 adK adV D cy ad fr0 tx rby rnx f hT _) (cwV 0 hts gX8_mend_X8_now rfl rfl rfl (by decide +kernel) ⟨Nat.le_of_ble_eq_true rfl, Nat.le_of_ble_eq_true rfl⟩) (by decide) 8 e26 rfl rfl hl.1 rfl (Nat.le_of_ble_eq_true rfl) dX8_mend_25 ⟨Nat.le_of_ble_eq_true rfl, Nat.le_of_ble_eq_true rfl⟩ (fun ra g H locs hw hra hP hD hS => ?_)
      obtain ⟨hrs, rfl⟩ := hw
      obtain ⟨t27, h28, rfl⟩ := hra
      obtain ⟨x29, x31, x32, x33, e34, h30⟩ := (ty_state hT h28)
      refine va_get (D := D) (cl := vwCl) (ci := 4) (v := .int x29) (C := RX4) (T := TX4) (N := 5) hx hb hts in_X8_mend_X4 hown hK hP t27 (wl_at (x_lt (x_state0 h28)) e34) rfl 1 (by decide) (hts (.fieldLink RX8 145 "EightReasons$State" "tied" "I") (List.mem_of_getElem? (i := 2) rfl)) (fun _ h9 => h9) rfl dX8_mend_28 ?_
      refine lv_istore_n (lv' := [(3, .int x29), (0, .ref (ad 0)), (1, .int p1), (2, .int p2)]) hx hb dX8_mend_31 rfl hl (by decide) rfl (fun ls hl => ?_)
      refine lv_aload_n hx hb dX8_mend_32 rfl (lv_at hl 1 rfl) ?_
      refine lv_iload_n hx hb dX8_mend_33 rfl (lv_at hl 2 rfl) ?_
      refine lv_aload_n hx hb dX8_mend_34 rfl (lv_at hl 1 rfl) ?_
      refine va_get (D := D) (cl := vwCl) (ci := 8) (v := .ref (ad t21)) (C := RX8) (T := TX8) (N := 13) hx hb hts in_X8_mend_X8 hown hK hP 0 (wl_at (by decide) e26) rfl 1 (by decide) (hts (.fieldLink RX8 19 "EightReasons" "told" "LEightReasons$Suit;") (List.mem_of_getElem? (i := 1) rfl)) (fun _ h9 => h9) rfl dX8_mend_35 ?_
      obtain ⟨x35, x37, x38, x40, x41, e42, h36, h39⟩ := (ty_suit hT h22)
      refine tVI (As := []) (rest := [.int p1, .ref (ad 0)]) (i := t21) ⟨hx, hb, hml, hown, hts⟩ hK hE hP hD hS hA hAB (s_X5_allStrands_0 l B0 adK adV D cy ad fr0 tx rby rnx f hT t21 h22 _) (cwV 0 hts gX8_mend_X5_allStrands rfl rfl rfl (by decide +kernel) ⟨Nat.le_of_ble_eq_true rfl, Nat.le_of_ble_eq_true rfl⟩) (x_lt (x_suit0 h22)) 5 e42 rfl rfl hl.1 rfl (Nat.le_of_ble_eq_true rfl) dX8_mend_38 ⟨Nat.le_of_ble_eq_true rfl, Nat.le_of_ble_eq_true rfl⟩ (fun r g H locs hw hP hD hS => ?_)
      obtain ⟨hrs, rfl⟩ := hw
      obtain ⟨x43, rfl⟩ : ∃ q, q = r := ⟨_, rfl⟩
      have h44 := hrs
      refine lv_iload_n hx hb dX8_mend_41 rfl (lv_at hl 0 rfl) ?_
      refine lv_iconst (v := (-1)) hx hb dX8_mend_42 (by decide) ?_
      refine lv_ixor hx hb dX8_mend_43 ?_
      refine lv_topi (fun x45 ex45 => ?_)
      refine lv_iand hx hb dX8_mend_44 ?_
      refine lv_topi (fun x46 ex46 => ?_)
      have hx46 := r_andl ex46 (by omega)
      refine lv_iload_n hx hb dX8_mend_45 rfl (lv_at hl 0 rfl) ?_
      refine lv_iconst (v := 1) hx hb dX8_mend_46 (by decide) ?_
      have ttl_1 := tl_1
      refine tVI (As := [.int p1, .int x46, .int x29, .int 1]) (rest := []) (i := 0) ⟨hx, hb, hml, hown, hts⟩ hK hE hP hD hS hA hAB (s_X8_fewest_0 l B0 adK adV D cy ad fr0 tx rby rnx f hT p1 (by omega) x46 (by omega) x29 (by omega) (1 : Int32) (by omega) _) (cwV 4 hts gX8_mend_X8_fewest rfl rfl rfl (by decide +kernel) ⟨Nat.le_of_ble_eq_true rfl, Nat.le_of_ble_eq_true rfl⟩) (by decide) 8 e26 rfl rfl hl.1 rfl (Nat.le_of_ble_eq_true rfl) dX8_mend_47 ⟨Nat.le_of_ble_eq_true rfl, Nat.le_of_ble_eq_true rfl⟩ (fun r f H locs hw hP hD hS => ?_)
      obtain ⟨hrs, hT⟩ := hw
      obtain ⟨x47, rfl⟩ : ∃ q, q = r := ⟨_, rfl⟩
      have h48 := hrs
      refine lv_iload_n hx hb dX8_mend_50 rfl (lv_at hl 3 rfl) ?_
      refine tSI (As := [.int x47, .int p2]) (rest := []) ⟨hx, hb, hml, hown, hts⟩ hK hE hP hD hS hA hAB (s_X8_sizeOrSet_0 l B0 adK adV D cy ad f x47 (by omega) p2 (by omega) _) (va_cwS 2 hts gX8_mend_X8_sizeOrSet rfl rfl rfl (by decide +kernel) ⟨Nat.le_of_ble_eq_true rfl, Nat.le_of_ble_eq_true rfl⟩) rfl hl.1 rfl (Nat.le_of_ble_eq_true rfl) dX8_mend_51 ⟨Nat.le_of_ble_eq_true rfl, Nat.le_of_ble_eq_true rfl⟩ (fun r g H locs hw hP hD hS => ?_)
      obtain ⟨hrs, rfl⟩ := hw
      obtain ⟨x49, rfl⟩ : ∃ q, q = r := ⟨_, rfl⟩
      have h50 := hrs
      exact tI hx hb hr hlk rfl hP hS ⟨(by omega), hT⟩ dX8_mend_54
    · refine lv_if_ne (tgt := 20) hx hb dX8_mend_15 (by decide) (fun c => absurd (by decide) c) (fun _ => ?_)
      refine lv_iconst (v := (-1)) hx hb dX8_mend_18 (by decide) ?_
      have ttl_m1 := tl_m1
      exact tI hx hb hr hlk rfl hP hS ⟨(by omega), hT⟩ dX8_mend_19
  · refine lv_if_eq (tgt := 18) hx hb dX8_mend_8 (by decide) (fun _ => ?_) (fun c => absurd (by decide) c)
    refine lv_iconst (v := (-1)) hx hb dX8_mend_18 (by decide) ?_
    have ttl_m1 := tl_m1
    exact tI hx hb hr hlk rfl hP hS ⟨(by omega), hT⟩ dX8_mend_19
set_option maxHeartbeats 4000000 in
set_option maxRecDepth 100000 in
theorem s_X8_lay_0 (l : Launch) (B0 : Nat) (adK adV : Nat → Nat) (D : va_G) (cy : Nat → ClassId) (ad : Nat → Nat) (fr0 : Nat → va_E) (tx : Int32) (rby : Int32) (rnx : Int32) (f : Nat → va_E) (hT : TYx ad cy fr0 tx rby rnx f) (p1 : Int32) (hp1 : 0 ≤ p1.toInt ∧ p1.toInt ≤ 11) (sz : Nat) : TtV l yX8_lay wsX8_lay 0 0 [.ref (ad 0), .int p1] B0 adK adV D cy ad f sz (fun (g : Nat → va_E) => True ∧ (TYx ad cy fr0 tx rby rnx g)) := by
  refine TtV.of (cc := cX8_lay) (maxL := 2) (own := RX8) (by decide) rfl (Nat.le_of_ble_eq_true rfl) rfl ?_
  intro p e s m below meth c A ls hx hb hr hml hts hown hlk hK hE hP hD hS hA hAB hl
  have hl : lv_has ls 2 [(0, .ref (ad 0)), (1, .int p1)] := hl
  refine st0 (fun H locs hP hS => ?_) hP hS
  refine lv_aload_n hx hb dX8_lay_0 rfl (lv_at hl 0 rfl) ?_
  obtain ⟨t1, x3, x4, e6, h2, h5⟩ := (show okX8 ad tx 0 (f 0) from hT.1 0 (by decide))
  refine va_get (D := D) (cl := vwCl) (ci := 8) (v := .int x4) (C := RX8) (T := TX8) (N := 13) hx hb hts in_X8_lay_X8 hown hK hP 0 (wl_at (by decide) e6) rfl 9 (by decide) (hts (.fieldLink RX8 102 "EightReasons" "lyingCount" "I") (List.mem_of_getElem? (i := 1) rfl)) (fun _ h9 => h9) rfl dX8_lay_1 ?_
  refine lv_aload_n hx hb dX8_lay_4 rfl (lv_at hl 0 rfl) ?_
  refine va_get (D := D) (cl := vwCl) (ci := 8) (v := .ref (ad 18)) (C := RX8) (T := TX8) (N := 13) hx hb hts in_X8_lay_X8 hown hK hP 0 (wl_at (by decide) e6) rfl 8 (by decide) (hts (.fieldLink RX8 52 "EightReasons" "lying" "[I") (List.mem_of_getElem? (i := 2) rfl)) (fun _ h9 => h9) rfl dX8_lay_5 ?_
  obtain ⟨g8, e7⟩ := (show okI cy 10 (f 18) from hT.1 18 (by decide))
  refine va_alen hx hb hK hP 18 0 (wl_at (by decide) e7) rfl (v := 10) rfl dX8_lay_8 ?_
  have ttl_10 := tl_10
  refine lv_icmp_ge (tgt := 32) hx hb dX8_lay_9 (by decide) (fun c9 => ?_) (fun c9 => ?_)
  · have kc9 := c_le c9
    exact tV hx hb hr hlk hP hS ⟨trivial, hT⟩ dX8_lay_32
  · have kc9 := c_nle c9
    refine lv_aload_n hx hb dX8_lay_12 rfl (lv_at hl 0 rfl) ?_
    refine va_get (D := D) (cl := vwCl) (ci := 8) (v := .ref (ad 18)) (C := RX8) (T := TX8) (N := 13) hx hb hts in_X8_lay_X8 hown hK hP 0 (wl_at (by decide) e6) rfl 8 (by decide) (hts (.fieldLink RX8 52 "EightReasons" "lying" "[I") (List.mem_of_getElem? (i := 2) rfl)) (fun _ h9 => h9) rfl dX8_lay_13 ?_
    refine lv_aload_n hx hb dX8_lay_16 rfl (lv_at hl 0 rfl) ?_
    refine va_get (D := D) (cl := vwCl) (ci := 8) (v := .int x4) (C := RX8) (T := TX8) (N := 13) hx hb hts in_X8_lay_X8 hown hK hP 0 (wl_at (by decide) e6) rfl 9 (by decide) (hts (.fieldLink RX8 102 "EightReasons" "lyingCount" "I") (List.mem_of_getElem? (i := 1) rfl)) (fun _ h9 => h9) rfl dX8_lay_17 ?_
    refine lv_iload_n hx hb dX8_lay_20 rfl (lv_at hl 1 rfl) ?_
    refine va_iast hx hb hK hP hD hS 18 0 (wl_at (by decide) e7) rfl (vp_in_iff.mpr ⟨by omega, by omega⟩) dX8_lay_21 (fun H locs hP hD hS => ?_)
    obtain ⟨f, hT, hP, hD, e10, hj11⟩ := stU (by decide) (TYx.up hT (by decide) (show OKx ad cy tx rby rnx 18 _ from (show okI cy 10 _ from ⟨_, rfl⟩))) hP hD
    have e12 := (hj11 0 (by decide)).trans e6
    refine lv_aload_n hx hb dX8_lay_22 rfl (lv_at hl 0 rfl) ?_
    refine lv_dup hx hb dX8_lay_23 rfl ?_
    refine va_get (D := D) (cl := vwCl) (ci := 8) (v := .int x4) (C := RX8) (T := TX8) (N := 13) hx hb hts in_X8_lay_X8 hown hK hP 0 (wl_at (by decide) e12) rfl 9 (by decide) (hts (.fieldLink RX8 102 "EightReasons" "lyingCount" "I") (List.mem_of_getElem? (i := 1) rfl)) (fun _ h9 => h9) rfl dX8_lay_24 ?_
    refine lv_iconst (v := 1) hx hb dX8_lay_27 (by decide) ?_
    have ttl_1 := tl_1
    refine lv_iadd hx hb dX8_lay_28 ?_
    refine lv_topi (fun x13 ex13 => ?_)
    have hx13 := r_add ex13 (by omega) (by omega)
    refine va_put (D := D) (cl := vwCl) (ci := 8) (v := .int x13) (ty := tyX8 9) (C := RX8) (T := TX8) (N := 13) hx hb hts in_X8_lay_X8 tyX8 tyX8_ok nmX8 hown hK hP hD hS 0 (wl_at (by decide) e12) rfl 9 (by decide) (hts (.fieldLink RX8 102 "EightReasons" "lyingCount" "I") (List.mem_of_getElem? (i := 1) rfl)) (fun _ h9 => h9) rfl (tyX8_ok 9 (by decide)) rfl rfl (Nat.le_of_ble_eq_true rfl) dX8_lay_29 (fun H locs hP hD hS => ?_)
    obtain ⟨f, hT, hP, hD, e14, hj15⟩ := stU (by decide) (TYx.up hT (by decide) (show OKx ad cy tx rby rnx 0 _ from (show okX8 ad tx 0 _ from ⟨t1, x3, x13, rfl, h2, by omega⟩))) hP hD
    exact tV hx hb hr hlk hP hS ⟨trivial, hT⟩ dX8_lay_32
set_option maxHeartbeats 4000000 in
set_option maxRecDepth 100000 in
theorem s_X8_proof_0 (l : Launch) (B0 : Nat) (adK adV : Nat → Nat) (D : va_G) (cy : Nat → ClassId) (ad : Nat → Nat) (fr0 : Nat → va_E) (tx : Int32) (rby : Int32) (rnx : Int32) (f : Nat → va_E) (hT : TYx ad cy fr0 tx rby rnx f) (p1 : Int32) (sz : Nat) : TtI l yX8_proof wsX8_proof 7 172 [.ref (ad 0), .int p1] B0 adK adV D cy ad f sz (fun (r : Int32) (g : Nat → va_E) => (-1 ≤ r.toInt ∧ r.toInt ≤ 10) ∧ (TYx ad cy fr0 tx rby rnx g)) := by
  refine TtI.of (cc := cX8_proof) (maxL := 6) (ty := .int) (own := RX8) (by decide) rfl (Nat.le_of_ble_eq_true rfl) rfl ?_
  intro p e s m below meth c A ls hx hb hr hml hts hown hlk hK hE hP hD hS hA hAB hl
  have hl : lv_has ls 6 [(0, .ref (ad 0)), (1, .int p1)] := hl
  refine st0 (fun H locs hP hS => ?_) hP hS
  have j30 : ∀ (N : Nat) (f : Nat → va_E) (H : Heap) (locs : List Loc) (ls : Array Slot) (v30_l4 : Int32) (v30_l3 : Int32) (v30_l2 : Int32), (12 - v30_l4.toInt ≤ (N : Int)) → (0 ≤ v30_l4.toInt ∧ v30_l4.toInt ≤ 11) → (0 ≤ v30_l2.toInt ∧ v30_l2.toInt ≤ 4095) → (TYx ad cy fr0 tx rby rnx f) → (va_P D vwCl (wl ad f) H) → (va_D A (wl ad f)) → (va_S A s.heap H locs) → (lv_has ls 6 [(4, .int v30_l4), (3, .int v30_l3), (2, .int v30_l2), (0, .ref (ad 0)), (1, .int p1)]) → W p l e (rmO 7 172 0 0) s m ([.ref (ad 0), .int p1] : List Value).toArray below meth c H locs 0 0 (MQ below (va_Qi (fun (r : Int32) (g : Nat → va_E) => (-1 ≤ r.toInt ∧ r.toInt ≤ 10) ∧ (TYx ad cy fr0 tx rby rnx g)) (fun g t => PstT D ad g t) A) ([.ref (ad 0), .int p1] : List Value).toArray s 0 0 A) (F0 m 30 ls []) := by
    intro N
    induction N with
    | zero => intro f H locs ls v30_l4 v30_l3 v30_l2 hN hv30_l4 hv30_l2 hT hP hD hS hl; exact absurd hN (by omega)
    | succ N ih30 =>
      intro f H locs ls v30_l4 v30_l3 v30_l2 hN hv30_l4 hv30_l2 hT hP hD hS hl
      have j40 : ∀ (N : Nat) (f : Nat → va_E) (H : Heap) (locs : List Loc) (ls : Array Slot) (v40_l5 : Int32), (11 - v40_l5.toInt ≤ (N : Int)) → (0 ≤ v40_l5.toInt ∧ v40_l5.toInt ≤ 10) → (0 ≤ v30_l4.toInt ∧ v30_l4.toInt ≤ 10) → (0 ≤ v30_l2.toInt ∧ v30_l2.toInt ≤ 4095) → (TYx ad cy fr0 tx rby rnx f) → (va_P D vwCl (wl ad f) H) → (va_D A (wl ad f)) → (va_S A s.heap H locs) → (lv_has ls 6 [(5, .int v40_l5), (4, .int v30_l4), (3, .int v30_l3), (2, .int v30_l2), (0, .ref (ad 0)), (1, .int p1)]) → W p l e (rmO 7 172 0 0) s m ([.ref (ad 0), .int p1] : List Value).toArray below meth c H locs 0 0 (MQ below (va_Qi (fun (r : Int32) (g : Nat → va_E) => (-1 ≤ r.toInt ∧ r.toInt ≤ 10) ∧ (TYx ad cy fr0 tx rby rnx g)) (fun g t => PstT D ad g t) A) ([.ref (ad 0), .int p1] : List Value).toArray s 0 0 A) (F0 m 40 ls []) := by
        intro N
        induction N with
        | zero => intro f H locs ls v40_l5 hN hv40_l5 hv40_l4 hv40_l2 hT hP hD hS hl; exact absurd hN (by omega)
        | succ N ih40 =>
          intro f H locs ls v40_l5 hN hv40_l5 hv40_l4 hv40_l2 hT hP hD hS hl
          have j82 : ∀ (f : Nat → va_E) (H : Heap) (locs : List Loc) (ls : Array Slot), (0 ≤ v40_l5.toInt ∧ v40_l5.toInt ≤ 9) → (0 ≤ v30_l4.toInt ∧ v30_l4.toInt ≤ 10) → (0 ≤ v30_l2.toInt ∧ v30_l2.toInt ≤ 4095) → (TYx ad cy fr0 tx rby rnx f) → (va_P D vwCl (wl ad f) H) → (va_D A (wl ad f)) → (va_S A s.heap H locs) → (lv_has ls 6 [(5, .int v40_l5), (4, .int v30_l4), (3, .int v30_l3), (2, .int v30_l2), (0, .ref (ad 0)), (1, .int p1)]) → W p l e (rmO 7 172 0 0) s m ([.ref (ad 0), .int p1] : List Value).toArray below meth c H locs 0 0 (MQ below (va_Qi (fun (r : Int32) (g : Nat → va_E) => (-1 ≤ r.toInt ∧ r.toInt ≤ 10) ∧ (TYx ad cy fr0 tx rby rnx g)) (fun g t => PstT D ad g t) A) ([.ref (ad 0), .int p1] : List Value).toArray s 0 0 A) (F0 m 82 ls []) := by
            intro f H locs ls hv82_l5 hv82_l4 hv82_l2 hT hP hD hS hl
            obtain ⟨x1, ex1⟩ : ∃ q : Int32, q = v40_l5 + Int32.ofInt (1) := ⟨_, rfl⟩
            refine lv_iinc (v := x1) (lv' := [(5, .int x1), (4, .int v30_l4), (3, .int v30_l3), (2, .int v30_l2), (0, .ref (ad 0)), (1, .int p1)]) hx hb dX8_proof_82 hl (k := 0) rfl ex1.symm (by decide) rfl (fun ls hl => ?_)
            have hx1 := r_inc ex1 (by decide) (by omega) (by omega)
            refine lv_goto (tgt := 40) hx hb dX8_proof_85 (by decide) ?_
            exact ih40 f H locs ls x1 (by omega) (by omega) (by omega) (by omega) hT hP hD hS (lv_sub hl [0, 1, 2, 3, 4, 5] rfl)
          refine lv_iload hx hb dX8_proof_40 (lv_at hl 0 rfl) ?_
          refine lv_aload_n hx hb dX8_proof_42 rfl (lv_at hl 4 rfl) ?_
          obtain ⟨t2, x4, x5, e7, h3, h6⟩ := (show okX8 ad tx 0 (f 0) from hT.1 0 (by decide))
          refine va_get (D := D) (cl := vwCl) (ci := 8) (v := .ref (ad t2)) (C := RX8) (T := TX8) (N := 13) hx hb hts in_X8_proof_X8 hown hK hP 0 (wl_at (by decide) e7) rfl 1 (by decide) (hts (.fieldLink RX8 19 "EightReasons" "told" "LEightReasons$Suit;") (List.mem_of_getElem? (i := 3) rfl)) (fun _ h9 => h9) rfl dX8_proof_43 ?_
          obtain ⟨x8, x10, x11, x13, x14, e15, h9, h12⟩ := (ty_suit hT h3)
          refine va_get (D := D) (cl := vwCl) (ci := 5) (v := .int x8) (C := RX5) (T := TX5) (N := 12) hx hb hts in_X8_proof_X5 hown hK hP t2 (wl_at (x_lt (x_suit0 h3)) e15) rfl 0 (by decide) (hts (.fieldLink RX8 105 "EightReasons$Suit" "points" "I") (List.mem_of_getElem? (i := 4) rfl)) (fun _ h9 => h9) rfl dX8_proof_46 ?_
          refine lv_icmp_ge (tgt := 88) hx hb dX8_proof_49 (by decide) (fun c16 => ?_) (fun c16 => ?_)
          · have kc16 := c_le c16
            obtain ⟨x17, ex17⟩ : ∃ q : Int32, q = v30_l4 + Int32.ofInt (1) := ⟨_, rfl⟩
            refine lv_iinc (v := x17) (lv' := [(4, .int x17), (5, .int v40_l5), (3, .int v30_l3), (2, .int v30_l2), (0, .ref (ad 0)), (1, .int p1)]) hx hb dX8_proof_88 hl (k := 1) rfl ex17.symm (by decide) rfl (fun ls hl => ?_)
            have hx17 := r_inc ex17 (by decide) (by omega) (by omega)
            refine lv_goto (tgt := 30) hx hb dX8_proof_91 (by decide) ?_
            exact ih30 f H locs ls x17 v30_l3 v30_l2 (by omega) (by omega) (by omega) hT hP hD hS (lv_sub hl [0, 2, 3, 4, 5] rfl)
          · have kc16 := c_nle c16
            refine lv_iload_n hx hb dX8_proof_52 rfl (lv_at hl 2 rfl) ?_
            refine lv_iload hx hb dX8_proof_53 (lv_at hl 0 rfl) ?_
            refine tSI (As := [.int v30_l3, .int v40_l5]) (rest := []) ⟨hx, hb, hml, hown, hts⟩ hK hE hP hD hS hA hAB (s_X8_has_0 l B0 adK adV D cy ad f v30_l3 v40_l5 _) (va_cwS 2 hts gX8_proof_X8_has rfl rfl rfl (by decide +kernel) ⟨Nat.le_of_ble_eq_true rfl, Nat.le_of_ble_eq_true rfl⟩) rfl hl.1 rfl (Nat.le_of_ble_eq_true rfl) dX8_proof_55 ⟨Nat.le_of_ble_eq_true rfl, Nat.le_of_ble_eq_true rfl⟩ (fun r g H locs hw hP hD hS => ?_)
            obtain ⟨hrs, rfl⟩ := hw
            obtain ⟨x18, rfl⟩ : ∃ q, q = r := ⟨_, rfl⟩
            rcases hrs with rfl | rfl
            · refine lv_if_eq (tgt := 82) hx hb dX8_proof_58 (by decide) (fun c => absurd c (by decide)) (fun _ => ?_)
              refine lv_aload_n hx hb dX8_proof_61 rfl (lv_at hl 4 rfl) ?_
              refine va_get (D := D) (cl := vwCl) (ci := 8) (v := .ref (ad 10)) (C := RX8) (T := TX8) (N := 13) hx hb hts in_X8_proof_X8 hown hK hP 0 (wl_at (by decide) e7) rfl 6 (by decide) (hts (.fieldLink RX8 44 "EightReasons" "loom" "LEightReasons$Loom;") (List.mem_of_getElem? (i := 2) rfl)) (fun _ h9 => h9) rfl dX8_proof_62 ?_
              obtain ⟨x19, t20, x22, x23, e24, h21⟩ := (show okX2 ad 10 (f 10) from hT.1 10 (by decide))
              refine va_get (D := D) (cl := vwCl) (ci := 2) (v := .ref (ad 13)) (C := RX2) (T := TX2) (N := 10) hx hb hts in_X8_proof_X2 hown hK hP 10 (wl_at (by decide) e24) rfl 3 (by decide) (hts (.fieldLink RX8 287 "EightReasons$Loom" "round" "[I") (List.mem_of_getElem? (i := 5) rfl)) (fun _ h9 => h9) rfl dX8_proof_65 ?_
              refine lv_iload hx hb dX8_proof_68 (lv_at hl 0 rfl) ?_
              obtain ⟨g26, e25⟩ := (show okI cy 10 (f 13) from hT.1 13 (by decide))
              refine va_iald hx hb hK hP 13 0 (wl_at (by decide) e25) rfl (vp_in_iff.mpr ⟨by omega, by omega⟩) dX8_proof_70 ?_
              refine lv_topi (fun x27 ex27 => ?_)
              refine lv_iload hx hb dX8_proof_71 (lv_at hl 1 rfl) ?_
              refine lv_icmp_ne (tgt := 82) hx hb dX8_proof_73 (by decide) (fun c28 => ?_) (fun c28 => ?_)
              · have kc28 := c_ne c28
                exact j82 f H locs ls (by omega) (by omega) (by omega) hT hP hD hS (lv_sub hl [0, 1, 2, 3, 4, 5] rfl)
              · have kc28 := c_eq c28
                refine lv_aload_n hx hb dX8_proof_76 rfl (lv_at hl 4 rfl) ?_
                refine lv_iload hx hb dX8_proof_77 (lv_at hl 0 rfl) ?_
                refine tVV (As := [.int v40_l5]) (rest := []) (i := 0) ⟨hx, hb, hml, hown, hts⟩ hK hE hP hD hS hA hAB (s_X8_lay_0 l B0 adK adV D cy ad fr0 tx rby rnx f hT v40_l5 (by omega) _) (cwV 1 hts gX8_proof_X8_lay rfl rfl rfl (by decide +kernel) ⟨Nat.le_of_ble_eq_true rfl, Nat.le_of_ble_eq_true rfl⟩) (by decide) 8 e7 rfl rfl hl.1 rfl (Nat.le_of_ble_eq_true rfl) dX8_proof_79 ⟨Nat.le_of_ble_eq_true rfl, Nat.le_of_ble_eq_true rfl⟩ (fun f H locs hw hP hD hS => ?_)
                obtain ⟨hrs, hT⟩ := hw
                exact j82 f H locs ls (by omega) (by omega) (by omega) hT hP hD hS (lv_sub hl [0, 1, 2, 3, 4, 5] rfl)
            · refine lv_if_eq (tgt := 82) hx hb dX8_proof_58 (by decide) (fun _ => ?_) (fun c => absurd (by decide) c)
              exact j82 f H locs ls (by omega) (by omega) (by omega) hT hP hD hS (lv_sub hl [0, 1, 2, 3, 4, 5] rfl)
      refine lv_iload hx hb dX8_proof_30 (lv_at hl 0 rfl) ?_
      refine lv_bipush (v := 10) hx hb dX8_proof_32 (by decide) ?_
      have ttl_10 := tl_10
      refine lv_icmp_gt (tgt := 94) hx hb dX8_proof_34 (by decide) (fun c29 => ?_) (fun c29 => ?_)
      · have kc29 := c_lt c29
        refine lv_aload_n hx hb dX8_proof_94 rfl (lv_at hl 3 rfl) ?_
        obtain ⟨t30, x32, x33, e35, h31, h34⟩ := (show okX8 ad tx 0 (f 0) from hT.1 0 (by decide))
        refine va_get (D := D) (cl := vwCl) (ci := 8) (v := .int x33) (C := RX8) (T := TX8) (N := 13) hx hb hts in_X8_proof_X8 hown hK hP 0 (wl_at (by decide) e35) rfl 9 (by decide) (hts (.fieldLink RX8 102 "EightReasons" "lyingCount" "I") (List.mem_of_getElem? (i := 1) rfl)) (fun _ h9 => h9) rfl dX8_proof_95 ?_
        exact tI hx hb hr hlk rfl hP hS ⟨(by omega), hT⟩ dX8_proof_98
      · have kc29 := c_nlt c29
        refine lv_iconst (v := 0) hx hb dX8_proof_37 (by decide) ?_
        refine lv_istore (lv' := [(5, .int 0), (4, .int v30_l4), (3, .int v30_l3), (2, .int v30_l2), (0, .ref (ad 0)), (1, .int p1)]) hx hb dX8_proof_38 hl (by decide) rfl (fun ls hl => ?_)
        have ttl_0 := tl_0
        exact j40 (Int.toNat (11 - (0 : Int32).toInt)) f H locs ls (0 : Int32) (by omega) (by omega) (by omega) (by omega) hT hP hD hS (lv_sub hl [0, 1, 2, 3, 4, 5] rfl)
  refine lv_aload_n hx hb dX8_proof_0 rfl (lv_at hl 0 rfl) ?_
  refine lv_iconst (v := 0) hx hb dX8_proof_1 (by decide) ?_
  obtain ⟨t36, x38, x39, e41, h37, h40⟩ := (show okX8 ad tx 0 (f 0) from hT.1 0 (by decide))
  refine va_put (D := D) (cl := vwCl) (ci := 8) (v := .int 0) (ty := tyX8 9) (C := RX8) (T := TX8) (N := 13) hx hb hts in_X8_proof_X8 tyX8 tyX8_ok nmX8 hown hK hP hD hS 0 (wl_at (by decide) e41) rfl 9 (by decide) (hts (.fieldLink RX8 102 "EightReasons" "lyingCount" "I") (List.mem_of_getElem? (i := 1) rfl)) (fun _ h9 => h9) rfl (tyX8_ok 9 (by decide)) rfl rfl (Nat.le_of_ble_eq_true rfl) dX8_proof_2 (fun H locs hP hD hS => ?_)
  have ttl_0 := tl_0
  obtain ⟨f, hT, hP, hD, e42, hj43⟩ := stU (by decide) (TYx.up hT (by decide) (show OKx ad cy tx rby rnx 0 _ from (show okX8 ad tx 0 _ from ⟨t36, x38, (0 : Int32), rfl, h37, by omega⟩))) hP hD
  refine lv_aload_n hx hb dX8_proof_5 rfl (lv_at hl 0 rfl) ?_
  refine lv_iload_n hx hb dX8_proof_6 rfl (lv_at hl 1 rfl) ?_
  refine tVI (As := [.int p1]) (rest := []) (i := 0) ⟨hx, hb, hml, hown, hts⟩ hK hE hP hD hS hA hAB (s_X8_leastProp_0 l B0 adK adV D cy ad fr0 tx rby rnx f hT p1 _) (cwV 1 hts gX8_proof_X8_leastProp rfl rfl rfl (by decide +kernel) ⟨Nat.le_of_ble_eq_true rfl, Nat.le_of_ble_eq_true rfl⟩) (by decide) 8 e42 rfl rfl hl.1 rfl (Nat.le_of_ble_eq_true rfl) dX8_proof_7 ⟨Nat.le_of_ble_eq_true rfl, Nat.le_of_ble_eq_true rfl⟩ (fun r f H locs hw hP hD hS => ?_)
  obtain ⟨hrs, hT⟩ := hw
  obtain ⟨x44, rfl⟩ : ∃ q, q = r := ⟨_, rfl⟩
  have h45 := hrs
  refine lv_istore_n (lv' := [(2, .int x44), (0, .ref (ad 0)), (1, .int p1)]) hx hb dX8_proof_10 rfl hl (by decide) rfl (fun ls hl => ?_)
  refine lv_iload_n hx hb dX8_proof_11 rfl (lv_at hl 0 rfl) ?_
  refine lv_iconst (v := (-1)) hx hb dX8_proof_12 (by decide) ?_
  have ttl_m1 := tl_m1
  refine lv_icmp_ne (tgt := 18) hx hb dX8_proof_13 (by decide) (fun c46 => ?_) (fun c46 => ?_)
  · have kc46 := c_ne c46
    refine lv_aload_n hx hb dX8_proof_18 rfl (lv_at hl 1 rfl) ?_
    obtain ⟨t47, x49, x50, e52, h48, h51⟩ := (show okX8 ad tx 0 (f 0) from hT.1 0 (by decide))
    refine va_get (D := D) (cl := vwCl) (ci := 8) (v := .ref (ad 10)) (C := RX8) (T := TX8) (N := 13) hx hb hts in_X8_proof_X8 hown hK hP 0 (wl_at (by decide) e52) rfl 6 (by decide) (hts (.fieldLink RX8 44 "EightReasons" "loom" "LEightReasons$Loom;") (List.mem_of_getElem? (i := 2) rfl)) (fun _ h9 => h9) rfl dX8_proof_19 ?_
    refine lv_iload_n hx hb dX8_proof_22 rfl (lv_at hl 0 rfl) ?_
    obtain ⟨x53, t54, x56, x57, e58, h55⟩ := (show okX2 ad 10 (f 10) from hT.1 10 (by decide))
    refine tVI (As := [.int x44]) (rest := []) (i := 10) ⟨hx, hb, hml, hown, hts⟩ hK hE hP hD hS hA hAB (s_X2_standing_0 l B0 adK adV D cy ad fr0 tx rby rnx f hT x44 _) (cwV 1 hts gX8_proof_X2_standing rfl rfl rfl (by decide +kernel) ⟨Nat.le_of_ble_eq_true rfl, Nat.le_of_ble_eq_true rfl⟩) (by decide) 2 e58 rfl rfl hl.1 rfl (Nat.le_of_ble_eq_true rfl) dX8_proof_23 ⟨Nat.le_of_ble_eq_true rfl, Nat.le_of_ble_eq_true rfl⟩ (fun r f H locs hw hP hD hS => ?_)
    obtain ⟨hrs, hT⟩ := hw
    obtain ⟨x59, rfl⟩ : ∃ q, q = r := ⟨_, rfl⟩
    have h60 := hrs
    refine lv_istore_n (lv' := [(3, .int x59), (2, .int x44), (0, .ref (ad 0)), (1, .int p1)]) hx hb dX8_proof_26 rfl hl (by decide) rfl (fun ls hl => ?_)
    refine lv_iconst (v := 0) hx hb dX8_proof_27 (by decide) ?_
    refine lv_istore (lv' := [(4, .int 0), (3, .int x59), (2, .int x44), (0, .ref (ad 0)), (1, .int p1)]) hx hb dX8_proof_28 hl (by decide) rfl (fun ls hl => ?_)
    exact j30 (Int.toNat (12 - (0 : Int32).toInt)) f H locs ls (0 : Int32) x59 x44 (by omega) (by omega) (by omega) hT hP hD hS (lv_sub hl [0, 1, 2, 3, 4] rfl)
  · have kc46 := c_eq c46
    refine lv_iconst (v := (-1)) hx hb dX8_proof_16 (by decide) ?_
    exact tI hx hb hr hlk rfl hP hS ⟨(by omega), hT⟩ dX8_proof_17
set_option maxHeartbeats 4000000 in
set_option maxRecDepth 100000 in
theorem s_X8_fillOutcomes_0 (l : Launch) (B0 : Nat) (adK adV : Nat → Nat) (D : va_G) (cy : Nat → ClassId) (ad : Nat → Nat) (fr0 : Nat → va_E) (tx : Int32) (rby : Int32) (rnx : Int32) (f : Nat → va_E) (hT : TYx ad cy fr0 tx rby rnx f) (p1 : Int32) (hp1 : 0 ≤ p1.toInt ∧ p1.toInt ≤ 9) (p2 : Int32) (hp2 : 0 ≤ p2.toInt ∧ p2.toInt ≤ 9) (sz : Nat) : TtV l yX8_fillOutcomes wsX8_fillOutcomes 5 124 [.ref (ad 0), .int p1, .int p2] B0 adK adV D cy ad f sz (fun (g : Nat → va_E) => True ∧ (TYx ad cy fr0 tx rby rnx g)) := by
  refine TtV.of (cc := cX8_fillOutcomes) (maxL := 8) (own := RX8) (by decide) rfl (Nat.le_of_ble_eq_true rfl) rfl ?_
  intro p e s m below meth c A ls hx hb hr hml hts hown hlk hK hE hP hD hS hA hAB hl
  have hl : lv_has ls 8 [(0, .ref (ad 0)), (1, .int p1), (2, .int p2)] := hl
  refine st0 (fun H locs hP hS => ?_) hP hS
  have j11 : ∀ (N : Nat) (f : Nat → va_E) (H : Heap) (locs : List Loc) (ls : Array Slot) (v11_l4 : Int32) (v11_l3 : Int32), (145 - v11_l4.toInt ≤ (N : Int)) → (0 ≤ v11_l4.toInt ∧ v11_l4.toInt ≤ 144) → (0 ≤ v11_l3.toInt ∧ v11_l3.toInt ≤ 4095) → (0 ≤ p1.toInt ∧ p1.toInt ≤ 9) → (0 ≤ p2.toInt ∧ p2.toInt ≤ 9) → (TYx ad cy fr0 tx rby rnx f) → (va_P D vwCl (wl ad f) H) → (va_D A (wl ad f)) → (va_S A s.heap H locs) → (lv_has ls 8 [(4, .int v11_l4), (3, .int v11_l3), (0, .ref (ad 0)), (1, .int p1), (2, .int p2)]) → W p l e (rmO 5 124 0 0) s m ([.ref (ad 0), .int p1, .int p2] : List Value).toArray below meth c H locs 0 0 (MQ below (va_Qv (fun (g : Nat → va_E) => True ∧ (TYx ad cy fr0 tx rby rnx g)) (fun g t => PstT D ad g t) A) ([.ref (ad 0), .int p1, .int p2] : List Value).toArray s 0 0 A) (F0 m 11 ls []) := by
    intro N
    induction N with
    | zero => intro f H locs ls v11_l4 v11_l3 hN hv11_l4 hv11_l3 hv11_l1 hv11_l2 hT hP hD hS hl; exact absurd hN (by omega)
    | succ N ih11 =>
      intro f H locs ls v11_l4 v11_l3 hN hv11_l4 hv11_l3 hv11_l1 hv11_l2 hT hP hD hS hl
      have j97 : ∀ (f : Nat → va_E) (H : Heap) (locs : List Loc) (ls : Array Slot) (v97_l6 : Int32) (v97_l5 : Int32), (0 ≤ v97_l6.toInt ∧ v97_l6.toInt ≤ 11) → (0 ≤ v97_l5.toInt ∧ v97_l5.toInt ≤ 11) → (0 ≤ v11_l4.toInt ∧ v11_l4.toInt ≤ 143) → (0 ≤ v11_l3.toInt ∧ v11_l3.toInt ≤ 4095) → (0 ≤ p1.toInt ∧ p1.toInt ≤ 9) → (0 ≤ p2.toInt ∧ p2.toInt ≤ 9) → (TYx ad cy fr0 tx rby rnx f) → (va_P D vwCl (wl ad f) H) → (va_D A (wl ad f)) → (va_S A s.heap H locs) → (lv_has ls 8 [(6, .int v97_l6), (5, .int v97_l5), (4, .int v11_l4), (3, .int v11_l3), (0, .ref (ad 0)), (1, .int p1), (2, .int p2)]) → W p l e (rmO 5 124 0 0) s m ([.ref (ad 0), .int p1, .int p2] : List Value).toArray below meth c H locs 0 0 (MQ below (va_Qv (fun (g : Nat → va_E) => True ∧ (TYx ad cy fr0 tx rby rnx g)) (fun g t => PstT D ad g t) A) ([.ref (ad 0), .int p1, .int p2] : List Value).toArray s 0 0 A) (F0 m 97 ls []) := by
        intro f H locs ls v97_l6 v97_l5 hv97_l6 hv97_l5 hv97_l4 hv97_l3 hv97_l1 hv97_l2 hT hP hD hS hl
        obtain ⟨x1, ex1⟩ : ∃ q : Int32, q = v11_l4 + Int32.ofInt (1) := ⟨_, rfl⟩
        refine lv_iinc (v := x1) (lv' := [(4, .int x1), (6, .int v97_l6), (5, .int v97_l5), (3, .int v11_l3), (0, .ref (ad 0)), (1, .int p1), (2, .int p2)]) hx hb dX8_fillOutcomes_97 hl (k := 2) rfl ex1.symm (by decide) rfl (fun ls hl => ?_)
        have hx1 := r_inc ex1 (by decide) (by omega) (by omega)
        refine lv_goto (tgt := 11) hx hb dX8_fillOutcomes_100 (by decide) ?_
        exact ih11 f H locs ls x1 v11_l3 (by omega) (by omega) (by omega) (by omega) (by omega) hT hP hD hS (lv_sub hl [0, 3, 4, 5, 6] rfl)
      refine lv_iload hx hb dX8_fillOutcomes_11 (lv_at hl 0 rfl) ?_
      refine lv_aload_n hx hb dX8_fillOutcomes_13 rfl (lv_at hl 2 rfl) ?_
      obtain ⟨t2, x4, x5, e7, h3, h6⟩ := (show okX8 ad tx 0 (f 0) from hT.1 0 (by decide))
      refine va_get (D := D) (cl := vwCl) (ci := 8) (v := .ref (ad 17)) (C := RX8) (T := TX8) (N := 13) hx hb hts in_X8_fillOutcomes_X8 hown hK hP 0 (wl_at (by decide) e7) rfl 7 (by decide) (hts (.fieldLink RX8 48 "EightReasons" "outcomes" "[I") (List.mem_of_getElem? (i := 2) rfl)) (fun _ h9 => h9) rfl dX8_fillOutcomes_14 ?_
      obtain ⟨g9, e8⟩ := (show okI cy 144 (f 17) from hT.1 17 (by decide))
      refine va_alen hx hb hK hP 17 0 (wl_at (by decide) e8) rfl (v := 144) rfl dX8_fillOutcomes_17 ?_
      have ttl_144 := tl_144
      refine lv_icmp_ge (tgt := 103) hx hb dX8_fillOutcomes_18 (by decide) (fun c10 => ?_) (fun c10 => ?_)
      · have kc10 := c_le c10
        exact tV hx hb hr hlk hP hS ⟨trivial, hT⟩ dX8_fillOutcomes_103
      · have kc10 := c_nle c10
        refine lv_iload hx hb dX8_fillOutcomes_21 (lv_at hl 0 rfl) ?_
        refine lv_bipush (v := 12) hx hb dX8_fillOutcomes_23 (by decide) ?_
        refine lv_idiv hx hb dX8_fillOutcomes_25 (by decide) ?_
        refine lv_topi (fun x11 ex11 => ?_)
        have hx11 := r_div ex11 tl_12 (by omega) (by decide)
        refine lv_istore (lv' := [(5, .int x11), (4, .int v11_l4), (3, .int v11_l3), (0, .ref (ad 0)), (1, .int p1), (2, .int p2)]) hx hb dX8_fillOutcomes_26 hl (by decide) rfl (fun ls hl => ?_)
        refine lv_iload hx hb dX8_fillOutcomes_28 (lv_at hl 1 rfl) ?_
        refine lv_bipush (v := 12) hx hb dX8_fillOutcomes_30 (by decide) ?_
        refine lv_irem hx hb dX8_fillOutcomes_32 (by decide) ?_
        refine lv_topi (fun x12 ex12 => ?_)
        have hx12 := r_rem ex12 tl_12 (by omega) (by decide)
        refine lv_istore (lv' := [(6, .int x12), (5, .int x11), (4, .int v11_l4), (3, .int v11_l3), (0, .ref (ad 0)), (1, .int p1), (2, .int p2)]) hx hb dX8_fillOutcomes_33 hl (by decide) rfl (fun ls hl => ?_)
        refine lv_aload_n hx hb dX8_fillOutcomes_35 rfl (lv_at hl 4 rfl) ?_
        refine lv_iload hx hb dX8_fillOutcomes_36 (lv_at hl 1 rfl) ?_
        refine tVI (As := [.int x11]) (rest := []) (i := 0) ⟨hx, hb, hml, hown, hts⟩ hK hE hP hD hS hA hAB (s_X8_isTied_0 l B0 adK adV D cy ad fr0 tx rby rnx f hT x11 _) (cwV 1 hts gX8_fillOutcomes_X8_isTied rfl rfl rfl (by decide +kernel) ⟨Nat.le_of_ble_eq_true rfl, Nat.le_of_ble_eq_true rfl⟩) (by decide) 8 e7 rfl rfl hl.1 rfl (Nat.le_of_ble_eq_true rfl) dX8_fillOutcomes_38 ⟨Nat.le_of_ble_eq_true rfl, Nat.le_of_ble_eq_true rfl⟩ (fun r g H locs hw hP hD hS => ?_)
        obtain ⟨hrs, rfl⟩ := hw
        obtain ⟨x13, rfl⟩ : ∃ q, q = r := ⟨_, rfl⟩
        rcases hrs with ⟨rfl, h14, h15⟩ | rfl
        · refine lv_if_eq (tgt := 97) hx hb dX8_fillOutcomes_41 (by decide) (fun c => absurd c (by decide)) (fun _ => ?_)
          refine lv_aload_n hx hb dX8_fillOutcomes_44 rfl (lv_at hl 4 rfl) ?_
          refine lv_iload hx hb dX8_fillOutcomes_45 (lv_at hl 0 rfl) ?_
          refine tVI (As := [.int x12]) (rest := []) (i := 0) ⟨hx, hb, hml, hown, hts⟩ hK hE hP hD hS hA hAB (s_X8_isTied_0 l B0 adK adV D cy ad fr0 tx rby rnx f hT x12 _) (cwV 1 hts gX8_fillOutcomes_X8_isTied rfl rfl rfl (by decide +kernel) ⟨Nat.le_of_ble_eq_true rfl, Nat.le_of_ble_eq_true rfl⟩) (by decide) 8 e7 rfl rfl hl.1 rfl (Nat.le_of_ble_eq_true rfl) dX8_fillOutcomes_47 ⟨Nat.le_of_ble_eq_true rfl, Nat.le_of_ble_eq_true rfl⟩ (fun r g H locs hw hP hD hS => ?_)
          obtain ⟨hrs, rfl⟩ := hw
          obtain ⟨x16, rfl⟩ : ∃ q, q = r := ⟨_, rfl⟩
          rcases hrs with ⟨rfl, h17, h18⟩ | rfl
          · refine lv_if_eq (tgt := 97) hx hb dX8_fillOutcomes_50 (by decide) (fun c => absurd c (by decide)) (fun _ => ?_)
            refine lv_aload_n hx hb dX8_fillOutcomes_53 rfl (lv_at hl 4 rfl) ?_
            refine va_get (D := D) (cl := vwCl) (ci := 8) (v := .ref (ad 10)) (C := RX8) (T := TX8) (N := 13) hx hb hts in_X8_fillOutcomes_X8 hown hK hP 0 (wl_at (by decide) e7) rfl 6 (by decide) (hts (.fieldLink RX8 44 "EightReasons" "loom" "LEightReasons$Loom;") (List.mem_of_getElem? (i := 3) rfl)) (fun _ h9 => h9) rfl dX8_fillOutcomes_54 ?_
            refine lv_iload_n hx hb dX8_fillOutcomes_57 rfl (lv_at hl 3 rfl) ?_
            refine lv_iconst (v := 1) hx hb dX8_fillOutcomes_58 (by decide) ?_
            refine lv_iload hx hb dX8_fillOutcomes_59 (lv_at hl 1 rfl) ?_
            refine lv_ishl hx hb dX8_fillOutcomes_61 ?_
            refine lv_topi (fun x19 ex19 => ?_)
            have hx19 := r_shl (K := 11) (M := 2048) ex19 (by decide) (by decide) (by omega) (by omega)
            refine lv_iconst (v := 1) hx hb dX8_fillOutcomes_62 (by decide) ?_
            refine lv_iload hx hb dX8_fillOutcomes_63 (lv_at hl 0 rfl) ?_
            refine lv_ishl hx hb dX8_fillOutcomes_65 ?_
            refine lv_topi (fun x20 ex20 => ?_)
            have hx20 := r_shl (K := 11) (M := 2048) ex20 (by decide) (by decide) (by omega) (by omega)
            refine lv_ior hx hb dX8_fillOutcomes_66 ?_
            refine lv_topi (fun x21 ex21 => ?_)
            have hx21 := r_or (k := 12) (K := 4096) ex21 (by decide) (by decide) (by omega) (by omega) (by omega) (by omega)
            refine lv_iconst (v := (-1)) hx hb dX8_fillOutcomes_67 (by decide) ?_
            refine lv_ixor hx hb dX8_fillOutcomes_68 ?_
            refine lv_topi (fun x22 ex22 => ?_)
            refine lv_iand hx hb dX8_fillOutcomes_69 ?_
            refine lv_topi (fun x23 ex23 => ?_)
            have hx23 := r_andl ex23 (by omega)
            obtain ⟨x24, t25, x27, x28, e29, h26⟩ := (show okX2 ad 10 (f 10) from hT.1 10 (by decide))
            refine tVI (As := [.int x23]) (rest := []) (i := 10) ⟨hx, hb, hml, hown, hts⟩ hK hE hP hD hS hA hAB (s_X2_standing_0 l B0 adK adV D cy ad fr0 tx rby rnx f hT x23 _) (cwV 1 hts gX8_fillOutcomes_X2_standing rfl rfl rfl (by decide +kernel) ⟨Nat.le_of_ble_eq_true rfl, Nat.le_of_ble_eq_true rfl⟩) (by decide) 2 e29 rfl rfl hl.1 rfl (Nat.le_of_ble_eq_true rfl) dX8_fillOutcomes_70 ⟨Nat.le_of_ble_eq_true rfl, Nat.le_of_ble_eq_true rfl⟩ (fun r f H locs hw hP hD hS => ?_)
            obtain ⟨hrs, hT⟩ := hw
            obtain ⟨x30, rfl⟩ : ∃ q, q = r := ⟨_, rfl⟩
            have h31 := hrs
            refine lv_istore (lv' := [(7, .int x30), (6, .int x12), (5, .int x11), (4, .int v11_l4), (3, .int v11_l3), (0, .ref (ad 0)), (1, .int p1), (2, .int p2)]) hx hb dX8_fillOutcomes_73 hl (by decide) rfl (fun ls hl => ?_)
            refine lv_aload_n hx hb dX8_fillOutcomes_75 rfl (lv_at hl 5 rfl) ?_
            obtain ⟨t32, x34, x35, e37, h33, h36⟩ := (show okX8 ad tx 0 (f 0) from hT.1 0 (by decide))
            refine va_get (D := D) (cl := vwCl) (ci := 8) (v := .ref (ad 17)) (C := RX8) (T := TX8) (N := 13) hx hb hts in_X8_fillOutcomes_X8 hown hK hP 0 (wl_at (by decide) e37) rfl 7 (by decide) (hts (.fieldLink RX8 48 "EightReasons" "outcomes" "[I") (List.mem_of_getElem? (i := 2) rfl)) (fun _ h9 => h9) rfl dX8_fillOutcomes_76 ?_
            refine lv_iload hx hb dX8_fillOutcomes_79 (lv_at hl 3 rfl) ?_
            refine lv_iload hx hb dX8_fillOutcomes_81 (lv_at hl 0 rfl) ?_
            refine lv_iload_n hx hb dX8_fillOutcomes_83 rfl (lv_at hl 6 rfl) ?_
            refine lv_ishr hx hb dX8_fillOutcomes_84 ?_
            refine lv_topi (fun x38 ex38 => ?_)
            refine lv_iconst (v := 1) hx hb dX8_fillOutcomes_85 (by decide) ?_
            have ttl_1 := tl_1
            refine lv_iand hx hb dX8_fillOutcomes_86 ?_
            refine lv_topi (fun x39 ex39 => ?_)
            have hx39 := r_andr ex39 (by omega)
            refine lv_iload hx hb dX8_fillOutcomes_87 (lv_at hl 0 rfl) ?_
            refine lv_iload_n hx hb dX8_fillOutcomes_89 rfl (lv_at hl 7 rfl) ?_
            refine lv_ishr hx hb dX8_fillOutcomes_90 ?_
            refine lv_topi (fun x40 ex40 => ?_)
            refine lv_iconst (v := 1) hx hb dX8_fillOutcomes_91 (by decide) ?_
            refine lv_iand hx hb dX8_fillOutcomes_92 ?_
            refine lv_topi (fun x41 ex41 => ?_)
            have hx41 := r_andr ex41 (by omega)
            refine lv_iconst (v := 1) hx hb dX8_fillOutcomes_93 (by decide) ?_
            refine lv_ishl hx hb dX8_fillOutcomes_94 ?_
            refine lv_topi (fun x42 ex42 => ?_)
            refine lv_ior hx hb dX8_fillOutcomes_95 ?_
            refine lv_topi (fun x43 ex43 => ?_)
            obtain ⟨g45, e44⟩ := (show okI cy 144 (f 17) from hT.1 17 (by decide))
            refine va_iast hx hb hK hP hD hS 17 0 (wl_at (by decide) e44) rfl (vp_in_iff.mpr ⟨by omega, by omega⟩) dX8_fillOutcomes_96 (fun H locs hP hD hS => ?_)
            obtain ⟨f, hT, hP, hD, e46, hj47⟩ := stU (by decide) (TYx.up hT (by decide) (show OKx ad cy tx rby rnx 17 _ from (show okI cy 144 _ from ⟨_, rfl⟩))) hP hD
            have e48 := (hj47 0 (by decide)).trans e37
            exact j97 f H locs ls x12 x11 (by omega) (by omega) (by omega) (by omega) (by omega) (by omega) hT hP hD hS (lv_sub hl [1, 2, 3, 4, 5, 6, 7] rfl)
          · refine lv_if_eq (tgt := 97) hx hb dX8_fillOutcomes_50 (by decide) (fun _ => ?_) (fun c => absurd (by decide) c)
            exact j97 f H locs ls x12 x11 (by omega) (by omega) (by omega) (by omega) (by omega) (by omega) hT hP hD hS (lv_sub hl [0, 1, 2, 3, 4, 5, 6] rfl)
        · refine lv_if_eq (tgt := 97) hx hb dX8_fillOutcomes_41 (by decide) (fun _ => ?_) (fun c => absurd (by decide) c)
          exact j97 f H locs ls x12 x11 (by omega) (by omega) (by omega) (by omega) (by omega) (by omega) hT hP hD hS (lv_sub hl [0, 1, 2, 3, 4, 5, 6] rfl)
  refine lv_aload_n hx hb dX8_fillOutcomes_0 rfl (lv_at hl 0 rfl) ?_
  obtain ⟨t49, x51, x52, e54, h50, h53⟩ := (show okX8 ad tx 0 (f 0) from hT.1 0 (by decide))
  refine tVR (As := []) (rest := []) (i := 0) ⟨hx, hb, hml, hown, hts⟩ hK hE hP hD hS hA hAB (s_X8_now_0 l B0 adK adV D cy ad fr0 tx rby rnx f hT _) (cwV 0 hts gX8_fillOutcomes_X8_now rfl rfl rfl (by decide +kernel) ⟨Nat.le_of_ble_eq_true rfl, Nat.le_of_ble_eq_true rfl⟩) (by decide) 8 e54 rfl rfl hl.1 rfl (Nat.le_of_ble_eq_true rfl) dX8_fillOutcomes_1 ⟨Nat.le_of_ble_eq_true rfl, Nat.le_of_ble_eq_true rfl⟩ (fun ra g H locs hw hra hP hD hS => ?_)
  obtain ⟨hrs, rfl⟩ := hw
  obtain ⟨t55, h56, rfl⟩ := hra
  obtain ⟨x57, x59, x60, x61, e62, h58⟩ := (ty_state hT h56)
  refine va_get (D := D) (cl := vwCl) (ci := 4) (v := .int x57) (C := RX4) (T := TX4) (N := 5) hx hb hts in_X8_fillOutcomes_X4 hown hK hP t55 (wl_at (x_lt (x_state0 h56)) e62) rfl 1 (by decide) (hts (.fieldLink RX8 145 "EightReasons$State" "tied" "I") (List.mem_of_getElem? (i := 1) rfl)) (fun _ h9 => h9) rfl dX8_fillOutcomes_4 ?_
  refine lv_istore_n (lv' := [(3, .int x57), (0, .ref (ad 0)), (1, .int p1), (2, .int p2)]) hx hb dX8_fillOutcomes_7 rfl hl (by decide) rfl (fun ls hl => ?_)
  refine lv_iconst (v := 0) hx hb dX8_fillOutcomes_8 (by decide) ?_
  refine lv_istore (lv' := [(4, .int 0), (3, .int x57), (0, .ref (ad 0)), (1, .int p1), (2, .int p2)]) hx hb dX8_fillOutcomes_9 hl (by decide) rfl (fun ls hl => ?_)
  have ttl_0 := tl_0
  exact j11 (Int.toNat (145 - (0 : Int32).toInt)) f H locs ls (0 : Int32) x57 (by omega) (by omega) (by omega) (by omega) (by omega) hT hP hD hS (lv_sub hl [0, 1, 2, 3, 4] rfl)
set_option maxHeartbeats 4000000 in
set_option maxRecDepth 100000 in
theorem s_X8_firstGain_0 (l : Launch) (B0 : Nat) (adK adV : Nat → Nat) (D : va_G) (cy : Nat → ClassId) (ad : Nat → Nat) (fr0 : Nat → va_E) (tx : Int32) (rby : Int32) (rnx : Int32) (f : Nat → va_E) (hT : TYx ad cy fr0 tx rby rnx f) (p1 : Int32) (hp1 : 0 ≤ p1.toInt ∧ p1.toInt ≤ 11) (p2 : Int32) (hp2 : 0 ≤ p2.toInt ∧ p2.toInt ≤ 11) (sz : Nat) : TtI l yX8_firstGain wsX8_firstGain 0 0 [.ref (ad 0), .int p1, .int p2] B0 adK adV D cy ad f sz (fun (r : Int32) (g : Nat → va_E) => True ∧ (f = g)) := by
  refine TtI.of (cc := cX8_firstGain) (maxL := 4) (ty := .int) (own := RX8) (by decide) rfl (Nat.le_of_ble_eq_true rfl) rfl ?_
  intro p e s m below meth c A ls hx hb hr hml hts hown hlk hK hE hP hD hS hA hAB hl
  have hl : lv_has ls 4 [(0, .ref (ad 0)), (1, .int p1), (2, .int p2)] := hl
  refine st0 (fun H locs hP hS => ?_) hP hS
  refine lv_aload_n hx hb dX8_firstGain_0 rfl (lv_at hl 0 rfl) ?_
  obtain ⟨t1, x3, x4, e6, h2, h5⟩ := (show okX8 ad tx 0 (f 0) from hT.1 0 (by decide))
  refine va_get (D := D) (cl := vwCl) (ci := 8) (v := .ref (ad 17)) (C := RX8) (T := TX8) (N := 13) hx hb hts in_X8_firstGain_X8 hown hK hP 0 (wl_at (by decide) e6) rfl 7 (by decide) (hts (.fieldLink RX8 48 "EightReasons" "outcomes" "[I") (List.mem_of_getElem? (i := 1) rfl)) (fun _ h9 => h9) rfl dX8_firstGain_1 ?_
  refine lv_iload_n hx hb dX8_firstGain_4 rfl (lv_at hl 1 rfl) ?_
  refine lv_bipush (v := 12) hx hb dX8_firstGain_5 (by decide) ?_
  refine lv_imul hx hb dX8_firstGain_7 ?_
  refine lv_topi (fun x7 ex7 => ?_)
  have hx7 := r_mulr ex7 tl_12 (by omega) (by omega)
  refine lv_iload_n hx hb dX8_firstGain_8 rfl (lv_at hl 2 rfl) ?_
  refine lv_iadd hx hb dX8_firstGain_9 ?_
  refine lv_topi (fun x8 ex8 => ?_)
  have hx8 := r_add ex8 (by omega) (by omega)
  obtain ⟨g10, e9⟩ := (show okI cy 144 (f 17) from hT.1 17 (by decide))
  refine va_iald hx hb hK hP 17 0 (wl_at (by decide) e9) rfl (vp_in_iff.mpr ⟨by omega, by omega⟩) dX8_firstGain_10 ?_
  refine lv_topi (fun x11 ex11 => ?_)
  refine lv_istore_n (lv' := [(3, .int x11), (0, .ref (ad 0)), (1, .int p1), (2, .int p2)]) hx hb dX8_firstGain_11 rfl hl (by decide) rfl (fun ls hl => ?_)
  refine lv_iconst (v := 2) hx hb dX8_firstGain_12 (by decide) ?_
  refine lv_iload_n hx hb dX8_firstGain_13 rfl (lv_at hl 0 rfl) ?_
  refine lv_iconst (v := 1) hx hb dX8_firstGain_14 (by decide) ?_
  have ttl_1 := tl_1
  refine lv_iand hx hb dX8_firstGain_15 ?_
  refine lv_topi (fun x12 ex12 => ?_)
  have hx12 := r_andr ex12 (by omega)
  refine lv_imul hx hb dX8_firstGain_16 ?_
  refine lv_topi (fun x13 ex13 => ?_)
  have hx13 := r_mull ex13 tl_2 (by omega) (by omega)
  refine lv_iconst (v := 1) hx hb dX8_firstGain_17 (by decide) ?_
  refine lv_iadd hx hb dX8_firstGain_18 ?_
  refine lv_topi (fun x14 ex14 => ?_)
  have hx14 := r_add ex14 (by omega) (by omega)
  refine lv_iload_n hx hb dX8_firstGain_19 rfl (lv_at hl 0 rfl) ?_
  refine lv_iconst (v := 1) hx hb dX8_firstGain_20 (by decide) ?_
  refine lv_ishr hx hb dX8_firstGain_21 ?_
  refine lv_topi (fun x15 ex15 => ?_)
  refine lv_isub hx hb dX8_firstGain_22 ?_
  refine lv_topi (fun x16 ex16 => ?_)
  exact tI hx hb hr hlk rfl hP hS ⟨trivial, rfl⟩ dX8_firstGain_23
set_option maxHeartbeats 4000000 in
set_option maxRecDepth 100000 in
theorem s_X8_otherGain_0 (l : Launch) (B0 : Nat) (adK adV : Nat → Nat) (D : va_G) (cy : Nat → ClassId) (ad : Nat → Nat) (fr0 : Nat → va_E) (tx : Int32) (rby : Int32) (rnx : Int32) (f : Nat → va_E) (hT : TYx ad cy fr0 tx rby rnx f) (p1 : Int32) (hp1 : 0 ≤ p1.toInt ∧ p1.toInt ≤ 11) (p2 : Int32) (hp2 : 0 ≤ p2.toInt ∧ p2.toInt ≤ 11) (sz : Nat) : TtI l yX8_otherGain wsX8_otherGain 0 0 [.ref (ad 0), .int p1, .int p2] B0 adK adV D cy ad f sz (fun (r : Int32) (g : Nat → va_E) => True ∧ (f = g)) := by
  refine TtI.of (cc := cX8_otherGain) (maxL := 4) (ty := .int) (own := RX8) (by decide) rfl (Nat.le_of_ble_eq_true rfl) rfl ?_
  intro p e s m below meth c A ls hx hb hr hml hts hown hlk hK hE hP hD hS hA hAB hl
  have hl : lv_has ls 4 [(0, .ref (ad 0)), (1, .int p1), (2, .int p2)] := hl
  refine st0 (fun H locs hP hS => ?_) hP hS
  refine lv_aload_n hx hb dX8_otherGain_0 rfl (lv_at hl 0 rfl) ?_
  obtain ⟨t1, x3, x4, e6, h2, h5⟩ := (show okX8 ad tx 0 (f 0) from hT.1 0 (by decide))
  refine va_get (D := D) (cl := vwCl) (ci := 8) (v := .ref (ad 17)) (C := RX8) (T := TX8) (N := 13) hx hb hts in_X8_otherGain_X8 hown hK hP 0 (wl_at (by decide) e6) rfl 7 (by decide) (hts (.fieldLink RX8 48 "EightReasons" "outcomes" "[I") (List.mem_of_getElem? (i := 1) rfl)) (fun _ h9 => h9) rfl dX8_otherGain_1 ?_
  refine lv_iload_n hx hb dX8_otherGain_4 rfl (lv_at hl 1 rfl) ?_
  refine lv_bipush (v := 12) hx hb dX8_otherGain_5 (by decide) ?_
  refine lv_imul hx hb dX8_otherGain_7 ?_
  refine lv_topi (fun x7 ex7 => ?_)
  have hx7 := r_mulr ex7 tl_12 (by omega) (by omega)
  refine lv_iload_n hx hb dX8_otherGain_8 rfl (lv_at hl 2 rfl) ?_
  refine lv_iadd hx hb dX8_otherGain_9 ?_
  refine lv_topi (fun x8 ex8 => ?_)
  have hx8 := r_add ex8 (by omega) (by omega)
  obtain ⟨g10, e9⟩ := (show okI cy 144 (f 17) from hT.1 17 (by decide))
  refine va_iald hx hb hK hP 17 0 (wl_at (by decide) e9) rfl (vp_in_iff.mpr ⟨by omega, by omega⟩) dX8_otherGain_10 ?_
  refine lv_topi (fun x11 ex11 => ?_)
  refine lv_istore_n (lv' := [(3, .int x11), (0, .ref (ad 0)), (1, .int p1), (2, .int p2)]) hx hb dX8_otherGain_11 rfl hl (by decide) rfl (fun ls hl => ?_)
  refine lv_iconst (v := 2) hx hb dX8_otherGain_12 (by decide) ?_
  refine lv_iload_n hx hb dX8_otherGain_13 rfl (lv_at hl 0 rfl) ?_
  refine lv_iconst (v := 1) hx hb dX8_otherGain_14 (by decide) ?_
  refine lv_ishr hx hb dX8_otherGain_15 ?_
  refine lv_topi (fun x12 ex12 => ?_)
  refine lv_imul hx hb dX8_otherGain_16 ?_
  refine lv_topi (fun x13 ex13 => ?_)
  refine lv_iconst (v := 1) hx hb dX8_otherGain_17 (by decide) ?_
  refine lv_iadd hx hb dX8_otherGain_18 ?_
  refine lv_topi (fun x14 ex14 => ?_)
  refine lv_iload_n hx hb dX8_otherGain_19 rfl (lv_at hl 0 rfl) ?_
  refine lv_iconst (v := 1) hx hb dX8_otherGain_20 (by decide) ?_
  have ttl_1 := tl_1
  refine lv_iand hx hb dX8_otherGain_21 ?_
  refine lv_topi (fun x15 ex15 => ?_)
  have hx15 := r_andr ex15 (by omega)
  refine lv_isub hx hb dX8_otherGain_22 ?_
  refine lv_topi (fun x16 ex16 => ?_)
  exact tI hx hb hr hlk rfl hP hS ⟨trivial, rfl⟩ dX8_otherGain_23
set_option maxHeartbeats 4000000 in
set_option maxRecDepth 100000 in
theorem s_X8_isRest_0 (l : Launch) (B0 : Nat) (adK adV : Nat → Nat) (D : va_G) (cy : Nat → ClassId) (ad : Nat → Nat) (fr0 : Nat → va_E) (tx : Int32) (rby : Int32) (rnx : Int32) (f : Nat → va_E) (hT : TYx ad cy fr0 tx rby rnx f) (p1 : Int32) (hp1 : 0 ≤ p1.toInt ∧ p1.toInt ≤ 11) (p2 : Int32) (hp2 : 0 ≤ p2.toInt ∧ p2.toInt ≤ 11) (sz : Nat) : TtI l yX8_isRest wsX8_isRest 3 61 [.ref (ad 0), .int p1, .int p2] B0 adK adV D cy ad f sz (fun (r : Int32) (g : Nat → va_E) => ((r = 1) ∨ (r = 0)) ∧ (f = g)) := by
  refine TtI.of (cc := cX8_isRest) (maxL := 6) (ty := .boolean) (own := RX8) (by decide) rfl (Nat.le_of_ble_eq_true rfl) rfl ?_
  intro p e s m below meth c A ls hx hb hr hml hts hown hlk hK hE hP hD hS hA hAB hl
  have hl : lv_has ls 6 [(0, .ref (ad 0)), (1, .int p1), (2, .int p2)] := hl
  refine st0 (fun H locs hP hS => ?_) hP hS
  have j18 : ∀ (N : Nat) (H : Heap) (locs : List Loc) (ls : Array Slot) (v18_l5 : Int32) (v18_l4 : Int32) (v18_l3 : Int32), (13 - v18_l5.toInt ≤ (N : Int)) → (0 ≤ v18_l5.toInt ∧ v18_l5.toInt ≤ 12) → (0 ≤ p1.toInt ∧ p1.toInt ≤ 11) → (0 ≤ p2.toInt ∧ p2.toInt ≤ 11) → (va_P D vwCl (wl ad f) H) → (va_D A (wl ad f)) → (va_S A s.heap H locs) → (lv_has ls 6 [(5, .int v18_l5), (4, .int v18_l4), (3, .int v18_l3), (0, .ref (ad 0)), (1, .int p1), (2, .int p2)]) → W p l e (rmO 3 61 0 0) s m ([.ref (ad 0), .int p1, .int p2] : List Value).toArray below meth c H locs 0 0 (MQ below (va_Qi (fun (r : Int32) (g : Nat → va_E) => ((r = 1) ∨ (r = 0)) ∧ (f = g)) (fun g t => PstT D ad g t) A) ([.ref (ad 0), .int p1, .int p2] : List Value).toArray s 0 0 A) (F0 m 18 ls []) := by
    intro N
    induction N with
    | zero => intro H locs ls v18_l5 v18_l4 v18_l3 hN hv18_l5 hv18_l1 hv18_l2 hP hD hS hl; exact absurd hN (by omega)
    | succ N ih18 =>
      intro H locs ls v18_l5 v18_l4 v18_l3 hN hv18_l5 hv18_l1 hv18_l2 hP hD hS hl
      have j64 : ∀ (H : Heap) (locs : List Loc) (ls : Array Slot), (0 ≤ v18_l5.toInt ∧ v18_l5.toInt ≤ 11) → (0 ≤ p1.toInt ∧ p1.toInt ≤ 11) → (0 ≤ p2.toInt ∧ p2.toInt ≤ 11) → (va_P D vwCl (wl ad f) H) → (va_D A (wl ad f)) → (va_S A s.heap H locs) → (lv_has ls 6 [(5, .int v18_l5), (4, .int v18_l4), (3, .int v18_l3), (0, .ref (ad 0)), (1, .int p1), (2, .int p2)]) → W p l e (rmO 3 61 0 0) s m ([.ref (ad 0), .int p1, .int p2] : List Value).toArray below meth c H locs 0 0 (MQ below (va_Qi (fun (r : Int32) (g : Nat → va_E) => ((r = 1) ∨ (r = 0)) ∧ (f = g)) (fun g t => PstT D ad g t) A) ([.ref (ad 0), .int p1, .int p2] : List Value).toArray s 0 0 A) (F0 m 64 ls []) := by
        intro H locs ls hv64_l5 hv64_l1 hv64_l2 hP hD hS hl
        obtain ⟨x1, ex1⟩ : ∃ q : Int32, q = v18_l5 + Int32.ofInt (1) := ⟨_, rfl⟩
        refine lv_iinc (v := x1) (lv' := [(5, .int x1), (4, .int v18_l4), (3, .int v18_l3), (0, .ref (ad 0)), (1, .int p1), (2, .int p2)]) hx hb dX8_isRest_64 hl (k := 0) rfl ex1.symm (by decide) rfl (fun ls hl => ?_)
        have hx1 := r_inc ex1 (by decide) (by omega) (by omega)
        refine lv_goto (tgt := 18) hx hb dX8_isRest_67 (by decide) ?_
        exact ih18 H locs ls x1 v18_l4 v18_l3 (by omega) (by omega) (by omega) (by omega) hP hD hS (lv_sub hl [0, 1, 2, 3, 4, 5] rfl)
      refine lv_iload hx hb dX8_isRest_18 (lv_at hl 0 rfl) ?_
      refine lv_aload_n hx hb dX8_isRest_20 rfl (lv_at hl 3 rfl) ?_
      obtain ⟨t2, x4, x5, e7, h3, h6⟩ := (show okX8 ad tx 0 (f 0) from hT.1 0 (by decide))
      refine va_get (D := D) (cl := vwCl) (ci := 8) (v := .ref (ad t2)) (C := RX8) (T := TX8) (N := 13) hx hb hts in_X8_isRest_X8 hown hK hP 0 (wl_at (by decide) e7) rfl 1 (by decide) (hts (.fieldLink RX8 19 "EightReasons" "told" "LEightReasons$Suit;") (List.mem_of_getElem? (i := 1) rfl)) (fun _ h9 => h9) rfl dX8_isRest_21 ?_
      obtain ⟨x8, x10, x11, x13, x14, e15, h9, h12⟩ := (ty_suit hT h3)
      refine va_get (D := D) (cl := vwCl) (ci := 5) (v := .int x11) (C := RX5) (T := TX5) (N := 12) hx hb hts in_X8_isRest_X5 hown hK hP t2 (wl_at (x_lt (x_suit0 h3)) e15) rfl 2 (by decide) (hts (.fieldLink RX8 157 "EightReasons$Suit" "strands" "I") (List.mem_of_getElem? (i := 2) rfl)) (fun _ h9 => h9) rfl dX8_isRest_24 ?_
      refine lv_icmp_ge (tgt := 70) hx hb dX8_isRest_27 (by decide) (fun c16 => ?_) (fun c16 => ?_)
      · have kc16 := c_le c16
        refine lv_iconst (v := 1) hx hb dX8_isRest_70 (by decide) ?_
        have ttl_1 := tl_1
        exact tI hx hb hr hlk rfl hP hS ⟨(Or.inl rfl), rfl⟩ dX8_isRest_71
      · have kc16 := c_nle c16
        refine lv_aload_n hx hb dX8_isRest_30 rfl (lv_at hl 3 rfl) ?_
        refine lv_iload hx hb dX8_isRest_31 (lv_at hl 0 rfl) ?_
        refine tVI (As := [.int v18_l5]) (rest := []) (i := 0) ⟨hx, hb, hml, hown, hts⟩ hK hE hP hD hS hA hAB (s_X8_isTied_0 l B0 adK adV D cy ad fr0 tx rby rnx f hT v18_l5 _) (cwV 1 hts gX8_isRest_X8_isTied rfl rfl rfl (by decide +kernel) ⟨Nat.le_of_ble_eq_true rfl, Nat.le_of_ble_eq_true rfl⟩) (by decide) 8 e7 rfl rfl hl.1 rfl (Nat.le_of_ble_eq_true rfl) dX8_isRest_33 ⟨Nat.le_of_ble_eq_true rfl, Nat.le_of_ble_eq_true rfl⟩ (fun r g H locs hw hP hD hS => ?_)
        obtain ⟨hrs, rfl⟩ := hw
        obtain ⟨x17, rfl⟩ : ∃ q, q = r := ⟨_, rfl⟩
        rcases hrs with ⟨rfl, h18, h19⟩ | rfl
        · refine lv_if_eq (tgt := 64) hx hb dX8_isRest_36 (by decide) (fun c => absurd c (by decide)) (fun _ => ?_)
          refine lv_aload_n hx hb dX8_isRest_39 rfl (lv_at hl 3 rfl) ?_
          refine lv_iload hx hb dX8_isRest_40 (lv_at hl 0 rfl) ?_
          refine lv_iload_n hx hb dX8_isRest_42 rfl (lv_at hl 5 rfl) ?_
          refine tVI (As := [.int v18_l5, .int p2]) (rest := []) (i := 0) ⟨hx, hb, hml, hown, hts⟩ hK hE hP hD hS hA hAB (s_X8_firstGain_0 l B0 adK adV D cy ad fr0 tx rby rnx f hT v18_l5 (by omega) p2 (by omega) _) (cwV 2 hts gX8_isRest_X8_firstGain rfl rfl rfl (by decide +kernel) ⟨Nat.le_of_ble_eq_true rfl, Nat.le_of_ble_eq_true rfl⟩) (by decide) 8 e7 rfl rfl hl.1 rfl (Nat.le_of_ble_eq_true rfl) dX8_isRest_43 ⟨Nat.le_of_ble_eq_true rfl, Nat.le_of_ble_eq_true rfl⟩ (fun r g H locs hw hP hD hS => ?_)
          obtain ⟨hrs, rfl⟩ := hw
          obtain ⟨x20, rfl⟩ : ∃ q, q = r := ⟨_, rfl⟩
          have h21 := hrs
          refine lv_iload_n hx hb dX8_isRest_46 rfl (lv_at hl 2 rfl) ?_
          refine lv_icmp_gt (tgt := 62) hx hb dX8_isRest_47 (by decide) (fun c22 => ?_) (fun c22 => ?_)
          · have kc22 := c_lt c22
            refine lv_iconst (v := 0) hx hb dX8_isRest_62 (by decide) ?_
            have ttl_0 := tl_0
            exact tI hx hb hr hlk rfl hP hS ⟨(Or.inr rfl), rfl⟩ dX8_isRest_63
          · have kc22 := c_nlt c22
            refine lv_aload_n hx hb dX8_isRest_50 rfl (lv_at hl 3 rfl) ?_
            refine lv_iload_n hx hb dX8_isRest_51 rfl (lv_at hl 4 rfl) ?_
            refine lv_iload hx hb dX8_isRest_52 (lv_at hl 0 rfl) ?_
            refine tVI (As := [.int p1, .int v18_l5]) (rest := []) (i := 0) ⟨hx, hb, hml, hown, hts⟩ hK hE hP hD hS hA hAB (s_X8_otherGain_0 l B0 adK adV D cy ad fr0 tx rby rnx f hT p1 (by omega) v18_l5 (by omega) _) (cwV 2 hts gX8_isRest_X8_otherGain rfl rfl rfl (by decide +kernel) ⟨Nat.le_of_ble_eq_true rfl, Nat.le_of_ble_eq_true rfl⟩) (by decide) 8 e7 rfl rfl hl.1 rfl (Nat.le_of_ble_eq_true rfl) dX8_isRest_54 ⟨Nat.le_of_ble_eq_true rfl, Nat.le_of_ble_eq_true rfl⟩ (fun r g H locs hw hP hD hS => ?_)
            obtain ⟨hrs, rfl⟩ := hw
            obtain ⟨x23, rfl⟩ : ∃ q, q = r := ⟨_, rfl⟩
            have h24 := hrs
            refine lv_iload hx hb dX8_isRest_57 (lv_at hl 1 rfl) ?_
            refine lv_icmp_le (tgt := 64) hx hb dX8_isRest_59 (by decide) (fun c25 => ?_) (fun c25 => ?_)
            · have kc25 := c_le c25
              exact j64 H locs ls (by omega) (by omega) (by omega) hP hD hS (lv_sub hl [0, 1, 2, 3, 4, 5] rfl)
            · have kc25 := c_nle c25
              refine lv_iconst (v := 0) hx hb dX8_isRest_62 (by decide) ?_
              have ttl_0 := tl_0
              exact tI hx hb hr hlk rfl hP hS ⟨(Or.inr rfl), rfl⟩ dX8_isRest_63
        · refine lv_if_eq (tgt := 64) hx hb dX8_isRest_36 (by decide) (fun _ => ?_) (fun c => absurd (by decide) c)
          exact j64 H locs ls (by omega) (by omega) (by omega) hP hD hS (lv_sub hl [0, 1, 2, 3, 4, 5] rfl)
  refine lv_aload_n hx hb dX8_isRest_0 rfl (lv_at hl 0 rfl) ?_
  refine lv_iload_n hx hb dX8_isRest_1 rfl (lv_at hl 1 rfl) ?_
  refine lv_iload_n hx hb dX8_isRest_2 rfl (lv_at hl 2 rfl) ?_
  obtain ⟨t26, x28, x29, e31, h27, h30⟩ := (show okX8 ad tx 0 (f 0) from hT.1 0 (by decide))
  refine tVI (As := [.int p1, .int p2]) (rest := []) (i := 0) ⟨hx, hb, hml, hown, hts⟩ hK hE hP hD hS hA hAB (s_X8_firstGain_0 l B0 adK adV D cy ad fr0 tx rby rnx f hT p1 (by omega) p2 (by omega) _) (cwV 2 hts gX8_isRest_X8_firstGain rfl rfl rfl (by decide +kernel) ⟨Nat.le_of_ble_eq_true rfl, Nat.le_of_ble_eq_true rfl⟩) (by decide) 8 e31 rfl rfl hl.1 rfl (Nat.le_of_ble_eq_true rfl) dX8_isRest_3 ⟨Nat.le_of_ble_eq_true rfl, Nat.le_of_ble_eq_true rfl⟩ (fun r g H locs hw hP hD hS => ?_)
  obtain ⟨hrs, rfl⟩ := hw
  obtain ⟨x32, rfl⟩ : ∃ q, q = r := ⟨_, rfl⟩
  have h33 := hrs
  refine lv_istore_n (lv' := [(3, .int x32), (0, .ref (ad 0)), (1, .int p1), (2, .int p2)]) hx hb dX8_isRest_6 rfl hl (by decide) rfl (fun ls hl => ?_)
  refine lv_aload_n hx hb dX8_isRest_7 rfl (lv_at hl 1 rfl) ?_
  refine lv_iload_n hx hb dX8_isRest_8 rfl (lv_at hl 2 rfl) ?_
  refine lv_iload_n hx hb dX8_isRest_9 rfl (lv_at hl 3 rfl) ?_
  refine tVI (As := [.int p1, .int p2]) (rest := []) (i := 0) ⟨hx, hb, hml, hown, hts⟩ hK hE hP hD hS hA hAB (s_X8_otherGain_0 l B0 adK adV D cy ad fr0 tx rby rnx f hT p1 (by omega) p2 (by omega) _) (cwV 2 hts gX8_isRest_X8_otherGain rfl rfl rfl (by decide +kernel) ⟨Nat.le_of_ble_eq_true rfl, Nat.le_of_ble_eq_true rfl⟩) (by decide) 8 e31 rfl rfl hl.1 rfl (Nat.le_of_ble_eq_true rfl) dX8_isRest_10 ⟨Nat.le_of_ble_eq_true rfl, Nat.le_of_ble_eq_true rfl⟩ (fun r g H locs hw hP hD hS => ?_)
  obtain ⟨hrs, rfl⟩ := hw
  obtain ⟨x34, rfl⟩ : ∃ q, q = r := ⟨_, rfl⟩
  have h35 := hrs
  refine lv_istore (lv' := [(4, .int x34), (3, .int x32), (0, .ref (ad 0)), (1, .int p1), (2, .int p2)]) hx hb dX8_isRest_13 hl (by decide) rfl (fun ls hl => ?_)
  refine lv_iconst (v := 0) hx hb dX8_isRest_15 (by decide) ?_
  refine lv_istore (lv' := [(5, .int 0), (4, .int x34), (3, .int x32), (0, .ref (ad 0)), (1, .int p1), (2, .int p2)]) hx hb dX8_isRest_16 hl (by decide) rfl (fun ls hl => ?_)
  have ttl_0 := tl_0
  exact j18 (Int.toNat (13 - (0 : Int32).toInt)) H locs ls (0 : Int32) x34 x32 (by omega) (by omega) (by omega) (by omega) hP hD hS (lv_sub hl [0, 1, 2, 3, 4, 5] rfl)
set_option maxHeartbeats 4000000 in
set_option maxRecDepth 100000 in
theorem s_X8_counsels_0 (l : Launch) (B0 : Nat) (adK adV : Nat → Nat) (D : va_G) (cy : Nat → ClassId) (ad : Nat → Nat) (fr0 : Nat → va_E) (tx : Int32) (rby : Int32) (rnx : Int32) (f : Nat → va_E) (hT : TYx ad cy fr0 tx rby rnx f) (p1 : Int32) (p2 : Int32) (sz : Nat) : TtI l yX8_counsels wsX8_counsels 6 151 [.ref (ad 0), .int p1, .int p2] B0 adK adV D cy ad f sz (fun (r : Int32) (g : Nat → va_E) => True ∧ (TYx ad cy fr0 tx rby rnx g)) := by
  refine TtI.of (cc := cX8_counsels) (maxL := 7) (ty := .int) (own := RX8) (by decide) rfl (Nat.le_of_ble_eq_true rfl) rfl ?_
  intro p e s m below meth c A ls hx hb hr hml hts hown hlk hK hE hP hD hS hA hAB hl
  have hl : lv_has ls 7 [(0, .ref (ad 0)), (1, .int p1), (2, .int p2)] := hl
  refine st0 (fun H locs hP hS => ?_) hP hS
  have j59 : ∀ (N : Nat) (f : Nat → va_E) (H : Heap) (locs : List Loc) (ls : Array Slot) (v59_l4 : Int32) (v59_l3 : Int32), (145 - v59_l4.toInt ≤ (N : Int)) → (0 ≤ v59_l4.toInt ∧ v59_l4.toInt ≤ 144) → (0 ≤ p1.toInt ∧ p1.toInt ≤ 9) → (0 ≤ p2.toInt ∧ p2.toInt ≤ 9) → (TYx ad cy fr0 tx rby rnx f) → (va_P D vwCl (wl ad f) H) → (va_D A (wl ad f)) → (va_S A s.heap H locs) → (lv_has ls 7 [(4, .int v59_l4), (3, .int v59_l3), (0, .ref (ad 0)), (1, .int p1), (2, .int p2)]) → W p l e (rmO 6 151 0 0) s m ([.ref (ad 0), .int p1, .int p2] : List Value).toArray below meth c H locs 0 0 (MQ below (va_Qi (fun (r : Int32) (g : Nat → va_E) => True ∧ (TYx ad cy fr0 tx rby rnx g)) (fun g t => PstT D ad g t) A) ([.ref (ad 0), .int p1, .int p2] : List Value).toArray s 0 0 A) (F0 m 59 ls []) := by
    intro N
    induction N with
    | zero => intro f H locs ls v59_l4 v59_l3 hN hv59_l4 hv59_l1 hv59_l2 hT hP hD hS hl; exact absurd hN (by omega)
    | succ N ih59 =>
      intro f H locs ls v59_l4 v59_l3 hN hv59_l4 hv59_l1 hv59_l2 hT hP hD hS hl
      have j131 : ∀ (f : Nat → va_E) (H : Heap) (locs : List Loc) (ls : Array Slot) (v131_l6 : Int32) (v131_l5 : Int32) (v131_l3 : Int32), (0 ≤ v131_l6.toInt ∧ v131_l6.toInt ≤ 11) → (0 ≤ v131_l5.toInt ∧ v131_l5.toInt ≤ 11) → (0 ≤ v59_l4.toInt ∧ v59_l4.toInt ≤ 143) → (0 ≤ p1.toInt ∧ p1.toInt ≤ 9) → (0 ≤ p2.toInt ∧ p2.toInt ≤ 9) → (TYx ad cy fr0 tx rby rnx f) → (va_P D vwCl (wl ad f) H) → (va_D A (wl ad f)) → (va_S A s.heap H locs) → (lv_has ls 7 [(6, .int v131_l6), (5, .int v131_l5), (4, .int v59_l4), (3, .int v131_l3), (0, .ref (ad 0)), (1, .int p1), (2, .int p2)]) → W p l e (rmO 6 151 0 0) s m ([.ref (ad 0), .int p1, .int p2] : List Value).toArray below meth c H locs 0 0 (MQ below (va_Qi (fun (r : Int32) (g : Nat → va_E) => True ∧ (TYx ad cy fr0 tx rby rnx g)) (fun g t => PstT D ad g t) A) ([.ref (ad 0), .int p1, .int p2] : List Value).toArray s 0 0 A) (F0 m 131 ls []) := by
        intro f H locs ls v131_l6 v131_l5 v131_l3 hv131_l6 hv131_l5 hv131_l4 hv131_l1 hv131_l2 hT hP hD hS hl
        obtain ⟨x1, ex1⟩ : ∃ q : Int32, q = v59_l4 + Int32.ofInt (1) := ⟨_, rfl⟩
        refine lv_iinc (v := x1) (lv' := [(4, .int x1), (6, .int v131_l6), (5, .int v131_l5), (3, .int v131_l3), (0, .ref (ad 0)), (1, .int p1), (2, .int p2)]) hx hb dX8_counsels_131 hl (k := 2) rfl ex1.symm (by decide) rfl (fun ls hl => ?_)
        have hx1 := r_inc ex1 (by decide) (by omega) (by omega)
        refine lv_goto (tgt := 59) hx hb dX8_counsels_134 (by decide) ?_
        exact ih59 f H locs ls x1 v131_l3 (by omega) (by omega) (by omega) (by omega) hT hP hD hS (lv_sub hl [0, 3, 4, 5, 6] rfl)
      have j128 : ∀ (f : Nat → va_E) (H : Heap) (locs : List Loc) (ls : Array Slot) (v128_l6 : Int32) (v128_l5 : Int32), (0 ≤ v128_l6.toInt ∧ v128_l6.toInt ≤ 11) → (0 ≤ v128_l5.toInt ∧ v128_l5.toInt ≤ 11) → (0 ≤ v59_l4.toInt ∧ v59_l4.toInt ≤ 143) → (0 ≤ p1.toInt ∧ p1.toInt ≤ 9) → (0 ≤ p2.toInt ∧ p2.toInt ≤ 9) → (TYx ad cy fr0 tx rby rnx f) → (va_P D vwCl (wl ad f) H) → (va_D A (wl ad f)) → (va_S A s.heap H locs) → (lv_has ls 7 [(6, .int v128_l6), (5, .int v128_l5), (4, .int v59_l4), (3, .int v59_l3), (0, .ref (ad 0)), (1, .int p1), (2, .int p2)]) → W p l e (rmO 6 151 0 0) s m ([.ref (ad 0), .int p1, .int p2] : List Value).toArray below meth c H locs 0 0 (MQ below (va_Qi (fun (r : Int32) (g : Nat → va_E) => True ∧ (TYx ad cy fr0 tx rby rnx g)) (fun g t => PstT D ad g t) A) ([.ref (ad 0), .int p1, .int p2] : List Value).toArray s 0 0 A) (F0 m 128 ls []) := by
        intro f H locs ls v128_l6 v128_l5 hv128_l6 hv128_l5 hv128_l4 hv128_l1 hv128_l2 hT hP hD hS hl
        obtain ⟨x2, ex2⟩ : ∃ q : Int32, q = v59_l3 + Int32.ofInt (1) := ⟨_, rfl⟩
        refine lv_iinc (v := x2) (lv' := [(3, .int x2), (6, .int v128_l6), (5, .int v128_l5), (4, .int v59_l4), (0, .ref (ad 0)), (1, .int p1), (2, .int p2)]) hx hb dX8_counsels_128 hl (k := 3) rfl ex2.symm (by decide) rfl (fun ls hl => ?_)
        exact j131 f H locs ls v128_l6 v128_l5 x2 (by omega) (by omega) (by omega) (by omega) (by omega) hT hP hD hS (lv_sub hl [1, 2, 3, 0, 4, 5, 6] rfl)
      refine lv_iload hx hb dX8_counsels_59 (lv_at hl 0 rfl) ?_
      refine lv_aload_n hx hb dX8_counsels_61 rfl (lv_at hl 2 rfl) ?_
      obtain ⟨t3, x5, x6, e8, h4, h7⟩ := (show okX8 ad tx 0 (f 0) from hT.1 0 (by decide))
      refine va_get (D := D) (cl := vwCl) (ci := 8) (v := .ref (ad 17)) (C := RX8) (T := TX8) (N := 13) hx hb hts in_X8_counsels_X8 hown hK hP 0 (wl_at (by decide) e8) rfl 7 (by decide) (hts (.fieldLink RX8 48 "EightReasons" "outcomes" "[I") (List.mem_of_getElem? (i := 4) rfl)) (fun _ h9 => h9) rfl dX8_counsels_62 ?_
      obtain ⟨g10, e9⟩ := (show okI cy 144 (f 17) from hT.1 17 (by decide))
      refine va_alen hx hb hK hP 17 0 (wl_at (by decide) e9) rfl (v := 144) rfl dX8_counsels_65 ?_
      have ttl_144 := tl_144
      refine lv_icmp_ge (tgt := 137) hx hb dX8_counsels_66 (by decide) (fun c11 => ?_) (fun c11 => ?_)
      · have kc11 := c_le c11
        refine lv_iload_n hx hb dX8_counsels_137 rfl (lv_at hl 1 rfl) ?_
        exact tI hx hb hr hlk rfl hP hS ⟨trivial, hT⟩ dX8_counsels_138
      · have kc11 := c_nle c11
        refine lv_iload hx hb dX8_counsels_69 (lv_at hl 0 rfl) ?_
        refine lv_bipush (v := 12) hx hb dX8_counsels_71 (by decide) ?_
        refine lv_idiv hx hb dX8_counsels_73 (by decide) ?_
        refine lv_topi (fun x12 ex12 => ?_)
        have hx12 := r_div ex12 tl_12 (by omega) (by decide)
        refine lv_istore (lv' := [(5, .int x12), (4, .int v59_l4), (3, .int v59_l3), (0, .ref (ad 0)), (1, .int p1), (2, .int p2)]) hx hb dX8_counsels_74 hl (by decide) rfl (fun ls hl => ?_)
        refine lv_iload hx hb dX8_counsels_76 (lv_at hl 1 rfl) ?_
        refine lv_bipush (v := 12) hx hb dX8_counsels_78 (by decide) ?_
        refine lv_irem hx hb dX8_counsels_80 (by decide) ?_
        refine lv_topi (fun x13 ex13 => ?_)
        have hx13 := r_rem ex13 tl_12 (by omega) (by decide)
        refine lv_istore (lv' := [(6, .int x13), (5, .int x12), (4, .int v59_l4), (3, .int v59_l3), (0, .ref (ad 0)), (1, .int p1), (2, .int p2)]) hx hb dX8_counsels_81 hl (by decide) rfl (fun ls hl => ?_)
        refine lv_aload_n hx hb dX8_counsels_83 rfl (lv_at hl 4 rfl) ?_
        refine lv_iload hx hb dX8_counsels_84 (lv_at hl 1 rfl) ?_
        refine tVI (As := [.int x12]) (rest := []) (i := 0) ⟨hx, hb, hml, hown, hts⟩ hK hE hP hD hS hA hAB (s_X8_isTied_0 l B0 adK adV D cy ad fr0 tx rby rnx f hT x12 _) (cwV 1 hts gX8_counsels_X8_isTied rfl rfl rfl (by decide +kernel) ⟨Nat.le_of_ble_eq_true rfl, Nat.le_of_ble_eq_true rfl⟩) (by decide) 8 e8 rfl rfl hl.1 rfl (Nat.le_of_ble_eq_true rfl) dX8_counsels_86 ⟨Nat.le_of_ble_eq_true rfl, Nat.le_of_ble_eq_true rfl⟩ (fun r g H locs hw hP hD hS => ?_)
        obtain ⟨hrs, rfl⟩ := hw
        obtain ⟨x14, rfl⟩ : ∃ q, q = r := ⟨_, rfl⟩
        rcases hrs with ⟨rfl, h15, h16⟩ | rfl
        · refine lv_if_eq (tgt := 131) hx hb dX8_counsels_89 (by decide) (fun c => absurd c (by decide)) (fun _ => ?_)
          refine lv_aload_n hx hb dX8_counsels_92 rfl (lv_at hl 4 rfl) ?_
          refine lv_iload hx hb dX8_counsels_93 (lv_at hl 0 rfl) ?_
          refine tVI (As := [.int x13]) (rest := []) (i := 0) ⟨hx, hb, hml, hown, hts⟩ hK hE hP hD hS hA hAB (s_X8_isTied_0 l B0 adK adV D cy ad fr0 tx rby rnx f hT x13 _) (cwV 1 hts gX8_counsels_X8_isTied rfl rfl rfl (by decide +kernel) ⟨Nat.le_of_ble_eq_true rfl, Nat.le_of_ble_eq_true rfl⟩) (by decide) 8 e8 rfl rfl hl.1 rfl (Nat.le_of_ble_eq_true rfl) dX8_counsels_95 ⟨Nat.le_of_ble_eq_true rfl, Nat.le_of_ble_eq_true rfl⟩ (fun r g H locs hw hP hD hS => ?_)
          obtain ⟨hrs, rfl⟩ := hw
          obtain ⟨x17, rfl⟩ : ∃ q, q = r := ⟨_, rfl⟩
          rcases hrs with ⟨rfl, h18, h19⟩ | rfl
          · refine lv_if_eq (tgt := 131) hx hb dX8_counsels_98 (by decide) (fun c => absurd c (by decide)) (fun _ => ?_)
            refine lv_aload_n hx hb dX8_counsels_101 rfl (lv_at hl 4 rfl) ?_
            refine lv_iload hx hb dX8_counsels_102 (lv_at hl 1 rfl) ?_
            refine lv_iload hx hb dX8_counsels_104 (lv_at hl 0 rfl) ?_
            refine tVI (As := [.int x12, .int x13]) (rest := []) (i := 0) ⟨hx, hb, hml, hown, hts⟩ hK hE hP hD hS hA hAB (s_X8_isRest_0 l B0 adK adV D cy ad fr0 tx rby rnx f hT x12 (by omega) x13 (by omega) _) (cwV 2 hts gX8_counsels_X8_isRest rfl rfl rfl (by decide +kernel) ⟨Nat.le_of_ble_eq_true rfl, Nat.le_of_ble_eq_true rfl⟩) (by decide) 8 e8 rfl rfl hl.1 rfl (Nat.le_of_ble_eq_true rfl) dX8_counsels_106 ⟨Nat.le_of_ble_eq_true rfl, Nat.le_of_ble_eq_true rfl⟩ (fun r g H locs hw hP hD hS => ?_)
            obtain ⟨hrs, rfl⟩ := hw
            obtain ⟨x20, rfl⟩ : ∃ q, q = r := ⟨_, rfl⟩
            rcases hrs with rfl | rfl
            · refine lv_if_eq (tgt := 131) hx hb dX8_counsels_109 (by decide) (fun c => absurd c (by decide)) (fun _ => ?_)
              refine lv_iload_n hx hb dX8_counsels_112 rfl (lv_at hl 3 rfl) ?_
              have ttl_0 := tl_0
              refine lv_if_ne (tgt := 128) hx hb dX8_counsels_113 (by decide) (fun c21 => ?_) (fun c21 => ?_)
              · have kc21 := c_ne c21
                exact j128 f H locs ls x13 x12 (by omega) (by omega) (by omega) (by omega) (by omega) hT hP hD hS (lv_sub hl [0, 1, 2, 3, 4, 5, 6] rfl)
              · have kc21 := c_eq c21
                refine lv_aload_n hx hb dX8_counsels_116 rfl (lv_at hl 4 rfl) ?_
                refine lv_iload hx hb dX8_counsels_117 (lv_at hl 1 rfl) ?_
                refine tVV (As := [.int x12]) (rest := []) (i := 0) ⟨hx, hb, hml, hown, hts⟩ hK hE hP hD hS hA hAB (s_X8_lay_0 l B0 adK adV D cy ad fr0 tx rby rnx f hT x12 (by omega) _) (cwV 1 hts gX8_counsels_X8_lay rfl rfl rfl (by decide +kernel) ⟨Nat.le_of_ble_eq_true rfl, Nat.le_of_ble_eq_true rfl⟩) (by decide) 8 e8 rfl rfl hl.1 rfl (Nat.le_of_ble_eq_true rfl) dX8_counsels_119 ⟨Nat.le_of_ble_eq_true rfl, Nat.le_of_ble_eq_true rfl⟩ (fun f H locs hw hP hD hS => ?_)
                obtain ⟨hrs, hT⟩ := hw
                refine lv_aload_n hx hb dX8_counsels_122 rfl (lv_at hl 4 rfl) ?_
                refine lv_iload hx hb dX8_counsels_123 (lv_at hl 0 rfl) ?_
                obtain ⟨t22, x24, x25, e27, h23, h26⟩ := (show okX8 ad tx 0 (f 0) from hT.1 0 (by decide))
                refine tVV (As := [.int x13]) (rest := []) (i := 0) ⟨hx, hb, hml, hown, hts⟩ hK hE hP hD hS hA hAB (s_X8_lay_0 l B0 adK adV D cy ad fr0 tx rby rnx f hT x13 (by omega) _) (cwV 1 hts gX8_counsels_X8_lay rfl rfl rfl (by decide +kernel) ⟨Nat.le_of_ble_eq_true rfl, Nat.le_of_ble_eq_true rfl⟩) (by decide) 8 e27 rfl rfl hl.1 rfl (Nat.le_of_ble_eq_true rfl) dX8_counsels_125 ⟨Nat.le_of_ble_eq_true rfl, Nat.le_of_ble_eq_true rfl⟩ (fun f H locs hw hP hD hS => ?_)
                obtain ⟨hrs, hT⟩ := hw
                exact j128 f H locs ls x13 x12 (by omega) (by omega) (by omega) (by omega) (by omega) hT hP hD hS (lv_sub hl [0, 1, 2, 3, 4, 5, 6] rfl)
            · refine lv_if_eq (tgt := 131) hx hb dX8_counsels_109 (by decide) (fun _ => ?_) (fun c => absurd (by decide) c)
              exact j131 f H locs ls x13 x12 v59_l3 (by omega) (by omega) (by omega) (by omega) (by omega) hT hP hD hS (lv_sub hl [0, 1, 2, 3, 4, 5, 6] rfl)
          · refine lv_if_eq (tgt := 131) hx hb dX8_counsels_98 (by decide) (fun _ => ?_) (fun c => absurd (by decide) c)
            exact j131 f H locs ls x13 x12 v59_l3 (by omega) (by omega) (by omega) (by omega) (by omega) hT hP hD hS (lv_sub hl [0, 1, 2, 3, 4, 5, 6] rfl)
        · refine lv_if_eq (tgt := 131) hx hb dX8_counsels_89 (by decide) (fun _ => ?_) (fun c => absurd (by decide) c)
          exact j131 f H locs ls x13 x12 v59_l3 (by omega) (by omega) (by omega) (by omega) (by omega) hT hP hD hS (lv_sub hl [0, 1, 2, 3, 4, 5, 6] rfl)
  refine lv_aload_n hx hb dX8_counsels_0 rfl (lv_at hl 0 rfl) ?_
  refine lv_iconst (v := 0) hx hb dX8_counsels_1 (by decide) ?_
  obtain ⟨t28, x30, x31, e33, h29, h32⟩ := (show okX8 ad tx 0 (f 0) from hT.1 0 (by decide))
  refine va_put (D := D) (cl := vwCl) (ci := 8) (v := .int 0) (ty := tyX8 9) (C := RX8) (T := TX8) (N := 13) hx hb hts in_X8_counsels_X8 tyX8 tyX8_ok nmX8 hown hK hP hD hS 0 (wl_at (by decide) e33) rfl 9 (by decide) (hts (.fieldLink RX8 102 "EightReasons" "lyingCount" "I") (List.mem_of_getElem? (i := 1) rfl)) (fun _ h9 => h9) rfl (tyX8_ok 9 (by decide)) rfl rfl (Nat.le_of_ble_eq_true rfl) dX8_counsels_2 (fun H locs hP hD hS => ?_)
  have ttl_0 := tl_0
  obtain ⟨f, hT, hP, hD, e34, hj35⟩ := stU (by decide) (TYx.up hT (by decide) (show OKx ad cy tx rby rnx 0 _ from (show okX8 ad tx 0 _ from ⟨t28, x30, (0 : Int32), rfl, h29, by omega⟩))) hP hD
  refine lv_iload_n hx hb dX8_counsels_5 rfl (lv_at hl 1 rfl) ?_
  refine lv_iload_n hx hb dX8_counsels_6 rfl (lv_at hl 2 rfl) ?_
  refine lv_icmp_eq (tgt := 42) hx hb dX8_counsels_7 (by decide) (fun c36 => ?_) (fun c36 => ?_)
  · have kc36 := c_eq c36
    refine lv_iconst (v := (-1)) hx hb dX8_counsels_42 (by decide) ?_
    have ttl_m1 := tl_m1
    exact tI hx hb hr hlk rfl hP hS ⟨trivial, hT⟩ dX8_counsels_43
  · have kc36 := c_ne c36
    refine lv_aload_n hx hb dX8_counsels_10 rfl (lv_at hl 0 rfl) ?_
    refine va_get (D := D) (cl := vwCl) (ci := 8) (v := .ref (ad t28)) (C := RX8) (T := TX8) (N := 13) hx hb hts in_X8_counsels_X8 hown hK hP 0 (wl_at (by decide) e34) rfl 1 (by decide) (hts (.fieldLink RX8 19 "EightReasons" "told" "LEightReasons$Suit;") (List.mem_of_getElem? (i := 2) rfl)) (fun _ h9 => h9) rfl dX8_counsels_11 ?_
    refine lv_iload_n hx hb dX8_counsels_14 rfl (lv_at hl 1 rfl) ?_
    obtain ⟨x37, x39, x40, x42, x43, e44, h38, h41⟩ := (ty_suit hT h29)
    refine tVI (As := [.int p1]) (rest := []) (i := t28) ⟨hx, hb, hml, hown, hts⟩ hK hE hP hD hS hA hAB (s_X5_isClaim_0 l B0 adK adV D cy ad fr0 tx rby rnx f hT t28 h29 p1 _) (cwV 1 hts gX8_counsels_X5_isClaim rfl rfl rfl (by decide +kernel) ⟨Nat.le_of_ble_eq_true rfl, Nat.le_of_ble_eq_true rfl⟩) (x_lt (x_suit0 h29)) 5 e44 rfl rfl hl.1 rfl (Nat.le_of_ble_eq_true rfl) dX8_counsels_15 ⟨Nat.le_of_ble_eq_true rfl, Nat.le_of_ble_eq_true rfl⟩ (fun r g H locs hw hP hD hS => ?_)
    obtain ⟨hrs, rfl⟩ := hw
    obtain ⟨x45, rfl⟩ : ∃ q, q = r := ⟨_, rfl⟩
    rcases hrs with ⟨rfl, h46, h47⟩ | rfl
    · refine lv_if_eq (tgt := 42) hx hb dX8_counsels_18 (by decide) (fun c => absurd c (by decide)) (fun _ => ?_)
      refine lv_aload_n hx hb dX8_counsels_21 rfl (lv_at hl 0 rfl) ?_
      refine va_get (D := D) (cl := vwCl) (ci := 8) (v := .ref (ad t28)) (C := RX8) (T := TX8) (N := 13) hx hb hts in_X8_counsels_X8 hown hK hP 0 (wl_at (by decide) e34) rfl 1 (by decide) (hts (.fieldLink RX8 19 "EightReasons" "told" "LEightReasons$Suit;") (List.mem_of_getElem? (i := 2) rfl)) (fun _ h9 => h9) rfl dX8_counsels_22 ?_
      refine lv_iload_n hx hb dX8_counsels_25 rfl (lv_at hl 2 rfl) ?_
      refine tVI (As := [.int p2]) (rest := []) (i := t28) ⟨hx, hb, hml, hown, hts⟩ hK hE hP hD hS hA hAB (s_X5_isClaim_0 l B0 adK adV D cy ad fr0 tx rby rnx f hT t28 h29 p2 _) (cwV 1 hts gX8_counsels_X5_isClaim rfl rfl rfl (by decide +kernel) ⟨Nat.le_of_ble_eq_true rfl, Nat.le_of_ble_eq_true rfl⟩) (x_lt (x_suit0 h29)) 5 e44 rfl rfl hl.1 rfl (Nat.le_of_ble_eq_true rfl) dX8_counsels_26 ⟨Nat.le_of_ble_eq_true rfl, Nat.le_of_ble_eq_true rfl⟩ (fun r g H locs hw hP hD hS => ?_)
      obtain ⟨hrs, rfl⟩ := hw
      obtain ⟨x48, rfl⟩ : ∃ q, q = r := ⟨_, rfl⟩
      rcases hrs with ⟨rfl, h49, h50⟩ | rfl
      · refine lv_if_eq (tgt := 42) hx hb dX8_counsels_29 (by decide) (fun c => absurd c (by decide)) (fun _ => ?_)
        refine lv_aload_n hx hb dX8_counsels_32 rfl (lv_at hl 0 rfl) ?_
        refine tVR (As := []) (rest := []) (i := 0) ⟨hx, hb, hml, hown, hts⟩ hK hE hP hD hS hA hAB (s_X8_now_0 l B0 adK adV D cy ad fr0 tx rby rnx f hT _) (cwV 0 hts gX8_counsels_X8_now rfl rfl rfl (by decide +kernel) ⟨Nat.le_of_ble_eq_true rfl, Nat.le_of_ble_eq_true rfl⟩) (by decide) 8 e34 rfl rfl hl.1 rfl (Nat.le_of_ble_eq_true rfl) dX8_counsels_33 ⟨Nat.le_of_ble_eq_true rfl, Nat.le_of_ble_eq_true rfl⟩ (fun ra g H locs hw hra hP hD hS => ?_)
        obtain ⟨hrs, rfl⟩ := hw
        obtain ⟨t51, h52, rfl⟩ := hra
        obtain ⟨x53, x55, x56, x57, e58, h54⟩ := (ty_state hT h52)
        refine va_get (D := D) (cl := vwCl) (ci := 4) (v := .int x53) (C := RX4) (T := TX4) (N := 5) hx hb hts in_X8_counsels_X4 hown hK hP t51 (wl_at (x_lt (x_state0 h52)) e58) rfl 1 (by decide) (hts (.fieldLink RX8 145 "EightReasons$State" "tied" "I") (List.mem_of_getElem? (i := 3) rfl)) (fun _ h9 => h9) rfl dX8_counsels_36 ?_
        refine lv_if_ne (tgt := 44) hx hb dX8_counsels_39 (by decide) (fun c59 => ?_) (fun c59 => ?_)
        · have kc59 := c_ne c59
          refine lv_aload_n hx hb dX8_counsels_44 rfl (lv_at hl 0 rfl) ?_
          refine tVV (As := []) (rest := []) (i := 0) ⟨hx, hb, hml, hown, hts⟩ hK hE hP hD hS hA hAB (s_X8_look_0 l B0 adK adV D cy ad fr0 tx rby rnx f hT _) (cwV 0 hts gX8_counsels_X8_look rfl rfl rfl (by decide +kernel) ⟨Nat.le_of_ble_eq_true rfl, Nat.le_of_ble_eq_true rfl⟩) (by decide) 8 e34 rfl rfl hl.1 rfl (Nat.le_of_ble_eq_true rfl) dX8_counsels_45 ⟨Nat.le_of_ble_eq_true rfl, Nat.le_of_ble_eq_true rfl⟩ (fun f H locs hw hP hD hS => ?_)
          obtain ⟨hrs, hT⟩ := hw
          refine lv_aload_n hx hb dX8_counsels_48 rfl (lv_at hl 0 rfl) ?_
          refine lv_iload_n hx hb dX8_counsels_49 rfl (lv_at hl 1 rfl) ?_
          refine lv_iload_n hx hb dX8_counsels_50 rfl (lv_at hl 2 rfl) ?_
          obtain ⟨t60, x62, x63, e65, h61, h64⟩ := (show okX8 ad tx 0 (f 0) from hT.1 0 (by decide))
          refine tVV (As := [.int p1, .int p2]) (rest := []) (i := 0) ⟨hx, hb, hml, hown, hts⟩ hK hE hP hD hS hA hAB (s_X8_fillOutcomes_0 l B0 adK adV D cy ad fr0 tx rby rnx f hT p1 (by omega) p2 (by omega) _) (cwV 2 hts gX8_counsels_X8_fillOutcomes rfl rfl rfl (by decide +kernel) ⟨Nat.le_of_ble_eq_true rfl, Nat.le_of_ble_eq_true rfl⟩) (by decide) 8 e65 rfl rfl hl.1 rfl (Nat.le_of_ble_eq_true rfl) dX8_counsels_51 ⟨Nat.le_of_ble_eq_true rfl, Nat.le_of_ble_eq_true rfl⟩ (fun f H locs hw hP hD hS => ?_)
          obtain ⟨hrs, hT⟩ := hw
          refine lv_iconst (v := 0) hx hb dX8_counsels_54 (by decide) ?_
          refine lv_istore_n (lv' := [(3, .int 0), (0, .ref (ad 0)), (1, .int p1), (2, .int p2)]) hx hb dX8_counsels_55 rfl hl (by decide) rfl (fun ls hl => ?_)
          refine lv_iconst (v := 0) hx hb dX8_counsels_56 (by decide) ?_
          refine lv_istore (lv' := [(4, .int 0), (3, .int 0), (0, .ref (ad 0)), (1, .int p1), (2, .int p2)]) hx hb dX8_counsels_57 hl (by decide) rfl (fun ls hl => ?_)
          exact j59 (Int.toNat (145 - (0 : Int32).toInt)) f H locs ls (0 : Int32) (0 : Int32) (by omega) (by omega) (by omega) (by omega) hT hP hD hS (lv_sub hl [0, 1, 2, 3, 4] rfl)
        · have kc59 := c_eq c59
          refine lv_iconst (v := (-1)) hx hb dX8_counsels_42 (by decide) ?_
          have ttl_m1 := tl_m1
          exact tI hx hb hr hlk rfl hP hS ⟨trivial, hT⟩ dX8_counsels_43
      · refine lv_if_eq (tgt := 42) hx hb dX8_counsels_29 (by decide) (fun _ => ?_) (fun c => absurd (by decide) c)
        refine lv_iconst (v := (-1)) hx hb dX8_counsels_42 (by decide) ?_
        have ttl_m1 := tl_m1
        exact tI hx hb hr hlk rfl hP hS ⟨trivial, hT⟩ dX8_counsels_43
    · refine lv_if_eq (tgt := 42) hx hb dX8_counsels_18 (by decide) (fun _ => ?_) (fun c => absurd (by decide) c)
      refine lv_iconst (v := (-1)) hx hb dX8_counsels_42 (by decide) ?_
      have ttl_m1 := tl_m1
      exact tI hx hb hr hlk rfl hP hS ⟨trivial, hT⟩ dX8_counsels_43
set_option maxHeartbeats 4000000 in
set_option maxRecDepth 100000 in
theorem s_X5_ahead_0 (l : Launch) (B0 : Nat) (adK adV : Nat → Nat) (D : va_G) (cy : Nat → ClassId) (ad : Nat → Nat) (fr0 : Nat → va_E) (tx : Int32) (rby : Int32) (rnx : Int32) (f : Nat → va_E) (hT : TYx ad cy fr0 tx rby rnx f) (q0 : Nat) (hq0 : isSuit q0) (p1 : Int32) (hp1 : 0 ≤ p1.toInt ∧ p1.toInt ≤ 1120) (p2 : Int32) (hp2 : 0 ≤ p2.toInt ∧ p2.toInt ≤ 4095) (sz : Nat) : TtI l yX5_ahead wsX5_ahead 1 21 [.ref (ad q0), .int p1, .int p2] B0 adK adV D cy ad f sz (fun (r : Int32) (g : Nat → va_E) => (0 ≤ r.toInt ∧ r.toInt ≤ 1023) ∧ (f = g)) := by
  refine TtI.of (cc := cX5_ahead) (maxL := 5) (ty := .int) (own := RX5) (by decide) rfl (Nat.le_of_ble_eq_true rfl) rfl ?_
  intro p e s m below meth c A ls hx hb hr hml hts hown hlk hK hE hP hD hS hA hAB hl
  have hl : lv_has ls 5 [(0, .ref (ad q0)), (1, .int p1), (2, .int p2)] := hl
  refine st0 (fun H locs hP hS => ?_) hP hS
  have j5 : ∀ (N : Nat) (H : Heap) (locs : List Loc) (ls : Array Slot) (v5_l4 : Int32) (v5_l3 : Int32), (13 - v5_l4.toInt ≤ (N : Int)) → (0 ≤ v5_l4.toInt ∧ v5_l4.toInt ≤ 12) → (0 ≤ v5_l3.toInt ∧ v5_l3.toInt ≤ 1023) → (0 ≤ p1.toInt ∧ p1.toInt ≤ 1120) → (0 ≤ p2.toInt ∧ p2.toInt ≤ 4095) → (va_P D vwCl (wl ad f) H) → (va_D A (wl ad f)) → (va_S A s.heap H locs) → (lv_has ls 5 [(4, .int v5_l4), (3, .int v5_l3), (0, .ref (ad q0)), (1, .int p1), (2, .int p2)]) → W p l e (rmO 1 21 0 0) s m ([.ref (ad q0), .int p1, .int p2] : List Value).toArray below meth c H locs 0 0 (MQ below (va_Qi (fun (r : Int32) (g : Nat → va_E) => (0 ≤ r.toInt ∧ r.toInt ≤ 1023) ∧ (f = g)) (fun g t => PstT D ad g t) A) ([.ref (ad q0), .int p1, .int p2] : List Value).toArray s 0 0 A) (F0 m 5 ls []) := by
    intro N
    induction N with
    | zero => intro H locs ls v5_l4 v5_l3 hN hv5_l4 hv5_l3 hv5_l1 hv5_l2 hP hD hS hl; exact absurd hN (by omega)
    | succ N ih5 =>
      intro H locs ls v5_l4 v5_l3 hN hv5_l4 hv5_l3 hv5_l1 hv5_l2 hP hD hS hl
      have j49 : ∀ (H : Heap) (locs : List Loc) (ls : Array Slot) (v49_l3 : Int32), (0 ≤ v49_l3.toInt ∧ v49_l3.toInt ≤ 1023) → (0 ≤ v5_l4.toInt ∧ v5_l4.toInt ≤ 11) → (0 ≤ p1.toInt ∧ p1.toInt ≤ 1120) → (0 ≤ p2.toInt ∧ p2.toInt ≤ 4095) → (va_P D vwCl (wl ad f) H) → (va_D A (wl ad f)) → (va_S A s.heap H locs) → (lv_has ls 5 [(3, .int v49_l3), (4, .int v5_l4), (0, .ref (ad q0)), (1, .int p1), (2, .int p2)]) → W p l e (rmO 1 21 0 0) s m ([.ref (ad q0), .int p1, .int p2] : List Value).toArray below meth c H locs 0 0 (MQ below (va_Qi (fun (r : Int32) (g : Nat → va_E) => (0 ≤ r.toInt ∧ r.toInt ≤ 1023) ∧ (f = g)) (fun g t => PstT D ad g t) A) ([.ref (ad q0), .int p1, .int p2] : List Value).toArray s 0 0 A) (F0 m 49 ls []) := by
        intro H locs ls v49_l3 hv49_l3 hv49_l4 hv49_l1 hv49_l2 hP hD hS hl
        obtain ⟨x1, ex1⟩ : ∃ q : Int32, q = v5_l4 + Int32.ofInt (1) := ⟨_, rfl⟩
        refine lv_iinc (v := x1) (lv' := [(4, .int x1), (3, .int v49_l3), (0, .ref (ad q0)), (1, .int p1), (2, .int p2)]) hx hb dX5_ahead_49 hl (k := 1) rfl ex1.symm (by decide) rfl (fun ls hl => ?_)
        have hx1 := r_inc ex1 (by decide) (by omega) (by omega)
        refine lv_goto (tgt := 5) hx hb dX5_ahead_52 (by decide) ?_
        exact ih5 H locs ls x1 v49_l3 (by omega) (by omega) (by omega) (by omega) (by omega) hP hD hS (lv_sub hl [0, 1, 2, 3, 4] rfl)
      refine lv_iload hx hb dX5_ahead_5 (lv_at hl 0 rfl) ?_
      refine lv_aload_n hx hb dX5_ahead_7 rfl (lv_at hl 2 rfl) ?_
      obtain ⟨x2, x4, x5, x7, x8, e9, h3, h6⟩ := (ty_suit hT hq0)
      refine va_get (D := D) (cl := vwCl) (ci := 5) (v := .int x5) (C := RX5) (T := TX5) (N := 12) hx hb hts in_X5_ahead_X5 hown hK hP q0 (wl_at (x_lt (x_suit0 hq0)) e9) rfl 2 (by decide) (hts (.fieldLink RX5 44 "EightReasons$Suit" "strands" "I") (List.mem_of_getElem? (i := 1) rfl)) (fun _ h9 => h9) rfl dX5_ahead_8 ?_
      refine lv_icmp_ge (tgt := 55) hx hb dX5_ahead_11 (by decide) (fun c10 => ?_) (fun c10 => ?_)
      · have kc10 := c_le c10
        refine lv_iload_n hx hb dX5_ahead_55 rfl (lv_at hl 1 rfl) ?_
        exact tI hx hb hr hlk rfl hP hS ⟨(by omega), rfl⟩ dX5_ahead_56
      · have kc10 := c_nle c10
        refine lv_iload_n hx hb dX5_ahead_14 rfl (lv_at hl 4 rfl) ?_
        refine lv_iload hx hb dX5_ahead_15 (lv_at hl 0 rfl) ?_
        refine tNI (As := [.int p2, .int v5_l4]) (rest := []) (host := RX8) ⟨hx, hb, hml, hown, hts⟩ hK hE hP hD hS hA hAB (s_X8_has_0 l B0 adK adV D cy ad f p2 v5_l4 _) ⟨va_cnB 2 hts gX5_ahead_X8_has_n63 rfl rfl rfl (hE.2.1 _ (List.mem_of_getElem? (i := 12) rfl)) (hts (.initialized RX8) (List.mem_of_getElem? (i := 5) rfl)) (by decide +kernel) ⟨Nat.le_of_ble_eq_true rfl, Nat.le_of_ble_eq_true rfl⟩, (hts (.static yX8_has) (List.mem_of_getElem? (i := 4) rfl)), trivial⟩ rfl hl.1 rfl (Nat.le_of_ble_eq_true rfl) dX5_ahead_17 ⟨Nat.le_of_ble_eq_true rfl, Nat.le_of_ble_eq_true rfl⟩ (fun r g H locs hw hP hD hS => ?_)
        obtain ⟨hrs, rfl⟩ := hw
        obtain ⟨x11, rfl⟩ : ∃ q, q = r := ⟨_, rfl⟩
        rcases hrs with rfl | rfl
        · refine lv_if_eq (tgt := 49) hx hb dX5_ahead_20 (by decide) (fun c => absurd c (by decide)) (fun _ => ?_)
          refine lv_iload_n hx hb dX5_ahead_23 rfl (lv_at hl 3 rfl) ?_
          refine lv_aload_n hx hb dX5_ahead_24 rfl (lv_at hl 2 rfl) ?_
          refine va_get (D := D) (cl := vwCl) (ci := 5) (v := .ref (ad (q0 + 4))) (C := RX5) (T := TX5) (N := 12) hx hb hts in_X5_ahead_X5 hown hK hP q0 (wl_at (x_lt (x_suit0 hq0)) e9) rfl 8 (by decide) (hts (.fieldLink RX5 21 "EightReasons$Suit" "source" "[I") (List.mem_of_getElem? (i := 2) rfl)) (fun _ h9 => h9) rfl dX5_ahead_25 ?_
          refine lv_iload hx hb dX5_ahead_28 (lv_at hl 0 rfl) ?_
          obtain ⟨g14, e12, h13⟩ := (ty_suit4 hT hq0)
          refine va_iald hx hb hK hP (q0 + 4) 0 (wl_at (x_lt (x_suit hq0 (by decide))) e12) rfl (vp_in_iff.mpr ⟨by omega, by omega⟩) dX5_ahead_30 ?_
          refine lv_topi (fun x15 ex15 => ?_)
          have hx15 := r_el (h13 _ (Nat.mod_one _)) ex15
          refine tNI (As := [.int p1, .int x15]) (rest := []) (host := RX8) ⟨hx, hb, hml, hown, hts⟩ hK hE hP hD hS hA hAB (s_X8_has_0 l B0 adK adV D cy ad f p1 x15 _) ⟨va_cnB 2 hts gX5_ahead_X8_has_n63 rfl rfl rfl (hE.2.1 _ (List.mem_of_getElem? (i := 12) rfl)) (hts (.initialized RX8) (List.mem_of_getElem? (i := 5) rfl)) (by decide +kernel) ⟨Nat.le_of_ble_eq_true rfl, Nat.le_of_ble_eq_true rfl⟩, (hts (.static yX8_has) (List.mem_of_getElem? (i := 4) rfl)), trivial⟩ rfl hl.1 rfl (Nat.le_of_ble_eq_true rfl) dX5_ahead_31 ⟨Nat.le_of_ble_eq_true rfl, Nat.le_of_ble_eq_true rfl⟩ (fun r g H locs hw hP hD hS => ?_)
          obtain ⟨hrs, rfl⟩ := hw
          obtain ⟨x16, rfl⟩ : ∃ q, q = r := ⟨_, rfl⟩
          rcases hrs with rfl | rfl
          · refine lv_if_eq (tgt := 49) hx hb dX5_ahead_34 (by decide) (fun c => absurd c (by decide)) (fun _ => ?_)
            refine lv_iload_n hx hb dX5_ahead_37 rfl (lv_at hl 1 rfl) ?_
            refine lv_iconst (v := 1) hx hb dX5_ahead_38 (by decide) ?_
            refine lv_aload_n hx hb dX5_ahead_39 rfl (lv_at hl 2 rfl) ?_
            refine va_get (D := D) (cl := vwCl) (ci := 5) (v := .ref (ad (q0 + 5))) (C := RX5) (T := TX5) (N := 12) hx hb hts in_X5_ahead_X5 hown hK hP q0 (wl_at (x_lt (x_suit0 hq0)) e9) rfl 9 (by decide) (hts (.fieldLink RX5 24 "EightReasons$Suit" "target" "[I") (List.mem_of_getElem? (i := 3) rfl)) (fun _ h9 => h9) rfl dX5_ahead_40 ?_
            refine lv_iload hx hb dX5_ahead_43 (lv_at hl 0 rfl) ?_
            obtain ⟨g19, e17, h18⟩ := (ty_suit5 hT hq0)
            refine va_iald hx hb hK hP (q0 + 5) 0 (wl_at (x_lt (x_suit hq0 (by decide))) e17) rfl (vp_in_iff.mpr ⟨by omega, by omega⟩) dX5_ahead_45 ?_
            refine lv_topi (fun x20 ex20 => ?_)
            have hx20 := r_el (h18 _ (Nat.mod_one _)) ex20
            refine lv_ishl hx hb dX5_ahead_46 ?_
            refine lv_topi (fun x21 ex21 => ?_)
            have hx21 := r_shl (K := 9) (M := 512) ex21 (by decide) (by decide) (by omega) (by omega)
            refine lv_ior hx hb dX5_ahead_47 ?_
            refine lv_topi (fun x22 ex22 => ?_)
            have hx22 := r_or (k := 10) (K := 1024) ex22 (by decide) (by decide) (by omega) (by omega) (by omega) (by omega)
            refine lv_istore_n (lv' := [(3, .int x22), (4, .int v5_l4), (0, .ref (ad q0)), (1, .int p1), (2, .int p2)]) hx hb dX5_ahead_48 rfl hl (by decide) rfl (fun ls hl => ?_)
            exact j49 H locs ls x22 (by omega) (by omega) (by omega) (by omega) hP hD hS (lv_sub hl [0, 1, 2, 3, 4] rfl)
          · refine lv_if_eq (tgt := 49) hx hb dX5_ahead_34 (by decide) (fun _ => ?_) (fun c => absurd (by decide) c)
            exact j49 H locs ls v5_l3 (by omega) (by omega) (by omega) (by omega) hP hD hS (lv_sub hl [1, 0, 2, 3, 4] rfl)
        · refine lv_if_eq (tgt := 49) hx hb dX5_ahead_20 (by decide) (fun _ => ?_) (fun c => absurd (by decide) c)
          exact j49 H locs ls v5_l3 (by omega) (by omega) (by omega) (by omega) hP hD hS (lv_sub hl [1, 0, 2, 3, 4] rfl)
  refine lv_iconst (v := 0) hx hb dX5_ahead_0 (by decide) ?_
  refine lv_istore_n (lv' := [(3, .int 0), (0, .ref (ad q0)), (1, .int p1), (2, .int p2)]) hx hb dX5_ahead_1 rfl hl (by decide) rfl (fun ls hl => ?_)
  refine lv_iconst (v := 0) hx hb dX5_ahead_2 (by decide) ?_
  refine lv_istore (lv' := [(4, .int 0), (3, .int 0), (0, .ref (ad q0)), (1, .int p1), (2, .int p2)]) hx hb dX5_ahead_3 hl (by decide) rfl (fun ls hl => ?_)
  have ttl_0 := tl_0
  exact j5 (Int.toNat (13 - (0 : Int32).toInt)) H locs ls (0 : Int32) (0 : Int32) (by omega) (by omega) (by omega) (by omega) (by omega) hP hD hS (lv_sub hl [0, 1, 2, 3, 4] rfl)
set_option maxHeartbeats 4000000 in
set_option maxRecDepth 100000 in
theorem s_X8_path_0 (l : Launch) (B0 : Nat) (adK adV : Nat → Nat) (D : va_G) (cy : Nat → ClassId) (ad : Nat → Nat) (fr0 : Nat → va_E) (tx : Int32) (rby : Int32) (rnx : Int32) (f : Nat → va_E) (hT : TYx ad cy fr0 tx rby rnx f) (p1 : Int32) (p2 : Int32) (sz : Nat) : TtI l yX8_path wsX8_path 2 45 [.ref (ad 0), .int p1, .int p2] B0 adK adV D cy ad f sz (fun (r : Int32) (g : Nat → va_E) => (-1 ≤ r.toInt ∧ r.toInt ≤ 9) ∧ (f = g)) := by
  refine TtI.of (cc := cX8_path) (maxL := 5) (ty := .int) (own := RX8) (by decide) rfl (Nat.le_of_ble_eq_true rfl) rfl ?_
  intro p e s m below meth c A ls hx hb hr hml hts hown hlk hK hE hP hD hS hA hAB hl
  have hl : lv_has ls 5 [(0, .ref (ad 0)), (1, .int p1), (2, .int p2)] := hl
  refine st0 (fun H locs hP hS => ?_) hP hS
  have j31 : ∀ (N : Nat) (H : Heap) (locs : List Loc) (ls : Array Slot) (v31_l4 : Int32) (v31_l3 : Int32), (11 - v31_l4.toInt ≤ (N : Int)) → (0 ≤ v31_l4.toInt ∧ v31_l4.toInt ≤ 10) → (0 ≤ v31_l3.toInt ∧ v31_l3.toInt ≤ 1023) → (0 ≤ p1.toInt ∧ p1.toInt ≤ 9) → (0 ≤ p2.toInt ∧ p2.toInt ≤ 9) → (va_P D vwCl (wl ad f) H) → (va_D A (wl ad f)) → (va_S A s.heap H locs) → (lv_has ls 5 [(4, .int v31_l4), (3, .int v31_l3), (0, .ref (ad 0)), (1, .int p1), (2, .int p2)]) → W p l e (rmO 2 45 0 0) s m ([.ref (ad 0), .int p1, .int p2] : List Value).toArray below meth c H locs 0 0 (MQ below (va_Qi (fun (r : Int32) (g : Nat → va_E) => (-1 ≤ r.toInt ∧ r.toInt ≤ 9) ∧ (f = g)) (fun g t => PstT D ad g t) A) ([.ref (ad 0), .int p1, .int p2] : List Value).toArray s 0 0 A) (F0 m 31 ls []) := by
    intro N
    induction N with
    | zero => intro H locs ls v31_l4 v31_l3 hN hv31_l4 hv31_l3 hv31_l1 hv31_l2 hP hD hS hl; exact absurd hN (by omega)
    | succ N ih31 =>
      intro H locs ls v31_l4 v31_l3 hN hv31_l4 hv31_l3 hv31_l1 hv31_l2 hP hD hS hl
      refine lv_iload hx hb dX8_path_31 (lv_at hl 0 rfl) ?_
      refine lv_bipush (v := 10) hx hb dX8_path_33 (by decide) ?_
      have ttl_10 := tl_10
      refine lv_icmp_ge (tgt := 73) hx hb dX8_path_35 (by decide) (fun c1 => ?_) (fun c1 => ?_)
      · have kc1 := c_le c1
        refine lv_iconst (v := (-1)) hx hb dX8_path_73 (by decide) ?_
        have ttl_m1 := tl_m1
        exact tI hx hb hr hlk rfl hP hS ⟨(by omega), rfl⟩ dX8_path_74
      · have kc1 := c_nle c1
        refine lv_iload_n hx hb dX8_path_38 rfl (lv_at hl 1 rfl) ?_
        refine lv_iload_n hx hb dX8_path_39 rfl (lv_at hl 4 rfl) ?_
        refine tSI (As := [.int v31_l3, .int p2]) (rest := []) ⟨hx, hb, hml, hown, hts⟩ hK hE hP hD hS hA hAB (s_X8_has_0 l B0 adK adV D cy ad f v31_l3 p2 _) (va_cwS 2 hts gX8_path_X8_has rfl rfl rfl (by decide +kernel) ⟨Nat.le_of_ble_eq_true rfl, Nat.le_of_ble_eq_true rfl⟩) rfl hl.1 rfl (Nat.le_of_ble_eq_true rfl) dX8_path_40 ⟨Nat.le_of_ble_eq_true rfl, Nat.le_of_ble_eq_true rfl⟩ (fun r g H locs hw hP hD hS => ?_)
        obtain ⟨hrs, rfl⟩ := hw
        obtain ⟨x2, rfl⟩ : ∃ q, q = r := ⟨_, rfl⟩
        rcases hrs with rfl | rfl
        · refine lv_if_eq (tgt := 49) hx hb dX8_path_43 (by decide) (fun c => absurd c (by decide)) (fun _ => ?_)
          refine lv_iload hx hb dX8_path_46 (lv_at hl 0 rfl) ?_
          exact tI hx hb hr hlk rfl hP hS ⟨(by omega), rfl⟩ dX8_path_48
        · refine lv_if_eq (tgt := 49) hx hb dX8_path_43 (by decide) (fun _ => ?_) (fun c => absurd (by decide) c)
          refine lv_iload_n hx hb dX8_path_49 rfl (lv_at hl 1 rfl) ?_
          refine lv_aload_n hx hb dX8_path_50 rfl (lv_at hl 2 rfl) ?_
          obtain ⟨t3, x5, x6, e8, h4, h7⟩ := (show okX8 ad tx 0 (f 0) from hT.1 0 (by decide))
          refine va_get (D := D) (cl := vwCl) (ci := 8) (v := .ref (ad t3)) (C := RX8) (T := TX8) (N := 13) hx hb hts in_X8_path_X8 hown hK hP 0 (wl_at (by decide) e8) rfl 1 (by decide) (hts (.fieldLink RX8 19 "EightReasons" "told" "LEightReasons$Suit;") (List.mem_of_getElem? (i := 1) rfl)) (fun _ h9 => h9) rfl dX8_path_51 ?_
          refine lv_iload_n hx hb dX8_path_54 rfl (lv_at hl 1 rfl) ?_
          refine lv_aload_n hx hb dX8_path_55 rfl (lv_at hl 2 rfl) ?_
          refine tVR (As := []) (rest := [.int v31_l3, .ref (ad t3), .int v31_l3]) (i := 0) ⟨hx, hb, hml, hown, hts⟩ hK hE hP hD hS hA hAB (s_X8_now_0 l B0 adK adV D cy ad fr0 tx rby rnx f hT _) (cwV 0 hts gX8_path_X8_now rfl rfl rfl (by decide +kernel) ⟨Nat.le_of_ble_eq_true rfl, Nat.le_of_ble_eq_true rfl⟩) (by decide) 8 e8 rfl rfl hl.1 rfl (Nat.le_of_ble_eq_true rfl) dX8_path_56 ⟨Nat.le_of_ble_eq_true rfl, Nat.le_of_ble_eq_true rfl⟩ (fun ra g H locs hw hra hP hD hS => ?_)
          obtain ⟨hrs, rfl⟩ := hw
          obtain ⟨t9, h10, rfl⟩ := hra
          obtain ⟨x11, x13, x14, x15, e16, h12⟩ := (ty_state hT h10)
          refine va_get (D := D) (cl := vwCl) (ci := 4) (v := .int x11) (C := RX4) (T := TX4) (N := 5) hx hb hts in_X8_path_X4 hown hK hP t9 (wl_at (x_lt (x_state0 h10)) e16) rfl 1 (by decide) (hts (.fieldLink RX8 145 "EightReasons$State" "tied" "I") (List.mem_of_getElem? (i := 2) rfl)) (fun _ h9 => h9) rfl dX8_path_59 ?_
          obtain ⟨x17, x19, x20, x22, x23, e24, h18, h21⟩ := (ty_suit hT h4)
          refine tVI (As := [.int v31_l3, .int x11]) (rest := [.int v31_l3]) (i := t3) ⟨hx, hb, hml, hown, hts⟩ hK hE hP hD hS hA hAB (s_X5_ahead_0 l B0 adK adV D cy ad fr0 tx rby rnx f hT t3 h4 v31_l3 (by omega) x11 (by omega) _) (cwV 2 hts gX8_path_X5_ahead rfl rfl rfl (by decide +kernel) ⟨Nat.le_of_ble_eq_true rfl, Nat.le_of_ble_eq_true rfl⟩) (x_lt (x_suit0 h4)) 5 e24 rfl rfl hl.1 rfl (Nat.le_of_ble_eq_true rfl) dX8_path_62 ⟨Nat.le_of_ble_eq_true rfl, Nat.le_of_ble_eq_true rfl⟩ (fun r g H locs hw hP hD hS => ?_)
          obtain ⟨hrs, rfl⟩ := hw
          obtain ⟨x25, rfl⟩ : ∃ q, q = r := ⟨_, rfl⟩
          have h26 := hrs
          refine lv_ior hx hb dX8_path_65 ?_
          refine lv_topi (fun x27 ex27 => ?_)
          have hx27 := r_or (k := 10) (K := 1024) ex27 (by decide) (by decide) (by omega) (by omega) (by omega) (by omega)
          refine lv_istore_n (lv' := [(3, .int x27), (4, .int v31_l4), (0, .ref (ad 0)), (1, .int p1), (2, .int p2)]) hx hb dX8_path_66 rfl hl (by decide) rfl (fun ls hl => ?_)
          obtain ⟨x28, ex28⟩ : ∃ q : Int32, q = v31_l4 + Int32.ofInt (1) := ⟨_, rfl⟩
          refine lv_iinc (v := x28) (lv' := [(4, .int x28), (3, .int x27), (0, .ref (ad 0)), (1, .int p1), (2, .int p2)]) hx hb dX8_path_67 hl (k := 1) rfl ex28.symm (by decide) rfl (fun ls hl => ?_)
          have hx28 := r_inc ex28 (by decide) (by omega) (by omega)
          refine lv_goto (tgt := 31) hx hb dX8_path_70 (by decide) ?_
          exact ih31 H locs ls x28 x27 (by omega) (by omega) (by omega) (by omega) (by omega) hP hD hS (lv_sub hl [0, 1, 2, 3, 4] rfl)
  refine lv_aload_n hx hb dX8_path_0 rfl (lv_at hl 0 rfl) ?_
  obtain ⟨t29, x31, x32, e34, h30, h33⟩ := (show okX8 ad tx 0 (f 0) from hT.1 0 (by decide))
  refine va_get (D := D) (cl := vwCl) (ci := 8) (v := .ref (ad t29)) (C := RX8) (T := TX8) (N := 13) hx hb hts in_X8_path_X8 hown hK hP 0 (wl_at (by decide) e34) rfl 1 (by decide) (hts (.fieldLink RX8 19 "EightReasons" "told" "LEightReasons$Suit;") (List.mem_of_getElem? (i := 1) rfl)) (fun _ h9 => h9) rfl dX8_path_1 ?_
  refine lv_iload_n hx hb dX8_path_4 rfl (lv_at hl 1 rfl) ?_
  obtain ⟨x35, x37, x38, x40, x41, e42, h36, h39⟩ := (ty_suit hT h30)
  refine tVI (As := [.int p1]) (rest := []) (i := t29) ⟨hx, hb, hml, hown, hts⟩ hK hE hP hD hS hA hAB (s_X5_isPoint_0 l B0 adK adV D cy ad fr0 tx rby rnx f hT t29 h30 p1 _) (cwV 1 hts gX8_path_X5_isPoint rfl rfl rfl (by decide +kernel) ⟨Nat.le_of_ble_eq_true rfl, Nat.le_of_ble_eq_true rfl⟩) (x_lt (x_suit0 h30)) 5 e42 rfl rfl hl.1 rfl (Nat.le_of_ble_eq_true rfl) dX8_path_5 ⟨Nat.le_of_ble_eq_true rfl, Nat.le_of_ble_eq_true rfl⟩ (fun r g H locs hw hP hD hS => ?_)
  obtain ⟨hrs, rfl⟩ := hw
  obtain ⟨x43, rfl⟩ : ∃ q, q = r := ⟨_, rfl⟩
  rcases hrs with ⟨rfl, h44, h45⟩ | rfl
  · refine lv_if_eq (tgt := 22) hx hb dX8_path_8 (by decide) (fun c => absurd c (by decide)) (fun _ => ?_)
    refine lv_aload_n hx hb dX8_path_11 rfl (lv_at hl 0 rfl) ?_
    refine va_get (D := D) (cl := vwCl) (ci := 8) (v := .ref (ad t29)) (C := RX8) (T := TX8) (N := 13) hx hb hts in_X8_path_X8 hown hK hP 0 (wl_at (by decide) e34) rfl 1 (by decide) (hts (.fieldLink RX8 19 "EightReasons" "told" "LEightReasons$Suit;") (List.mem_of_getElem? (i := 1) rfl)) (fun _ h9 => h9) rfl dX8_path_12 ?_
    refine lv_iload_n hx hb dX8_path_15 rfl (lv_at hl 2 rfl) ?_
    refine tVI (As := [.int p2]) (rest := []) (i := t29) ⟨hx, hb, hml, hown, hts⟩ hK hE hP hD hS hA hAB (s_X5_isClaim_0 l B0 adK adV D cy ad fr0 tx rby rnx f hT t29 h30 p2 _) (cwV 1 hts gX8_path_X5_isClaim rfl rfl rfl (by decide +kernel) ⟨Nat.le_of_ble_eq_true rfl, Nat.le_of_ble_eq_true rfl⟩) (x_lt (x_suit0 h30)) 5 e42 rfl rfl hl.1 rfl (Nat.le_of_ble_eq_true rfl) dX8_path_16 ⟨Nat.le_of_ble_eq_true rfl, Nat.le_of_ble_eq_true rfl⟩ (fun r g H locs hw hP hD hS => ?_)
    obtain ⟨hrs, rfl⟩ := hw
    obtain ⟨x46, rfl⟩ : ∃ q, q = r := ⟨_, rfl⟩
    rcases hrs with ⟨rfl, h47, h48⟩ | rfl
    · refine lv_if_ne (tgt := 24) hx hb dX8_path_19 (by decide) (fun _ => ?_) (fun c => absurd c (by decide))
      refine lv_iconst (v := 1) hx hb dX8_path_24 (by decide) ?_
      refine lv_iload_n hx hb dX8_path_25 rfl (lv_at hl 1 rfl) ?_
      refine lv_ishl hx hb dX8_path_26 ?_
      refine lv_topi (fun x49 ex49 => ?_)
      have hx49 := r_shl (K := 9) (M := 512) ex49 (by decide) (by decide) (by omega) (by omega)
      refine lv_istore_n (lv' := [(3, .int x49), (0, .ref (ad 0)), (1, .int p1), (2, .int p2)]) hx hb dX8_path_27 rfl hl (by decide) rfl (fun ls hl => ?_)
      refine lv_iconst (v := 0) hx hb dX8_path_28 (by decide) ?_
      refine lv_istore (lv' := [(4, .int 0), (3, .int x49), (0, .ref (ad 0)), (1, .int p1), (2, .int p2)]) hx hb dX8_path_29 hl (by decide) rfl (fun ls hl => ?_)
      have ttl_0 := tl_0
      exact j31 (Int.toNat (11 - (0 : Int32).toInt)) H locs ls (0 : Int32) x49 (by omega) (by omega) (by omega) (by omega) (by omega) hP hD hS (lv_sub hl [0, 1, 2, 3, 4] rfl)
    · refine lv_if_ne (tgt := 24) hx hb dX8_path_19 (by decide) (fun c => absurd (by decide) c) (fun _ => ?_)
      refine lv_iconst (v := (-1)) hx hb dX8_path_22 (by decide) ?_
      have ttl_m1 := tl_m1
      exact tI hx hb hr hlk rfl hP hS ⟨(by omega), rfl⟩ dX8_path_23
  · refine lv_if_eq (tgt := 22) hx hb dX8_path_8 (by decide) (fun _ => ?_) (fun c => absurd (by decide) c)
    refine lv_iconst (v := (-1)) hx hb dX8_path_22 (by decide) ?_
    have ttl_m1 := tl_m1
    exact tI hx hb hr hlk rfl hP hS ⟨(by omega), rfl⟩ dX8_path_23
set_option maxHeartbeats 4000000 in
set_option maxRecDepth 100000 in
theorem s_X2_weaken_0 (l : Launch) (B0 : Nat) (adK adV : Nat → Nat) (D : va_G) (cy : Nat → ClassId) (ad : Nat → Nat) (fr0 : Nat → va_E) (tx : Int32) (rby : Int32) (rnx : Int32) (f : Nat → va_E) (hT : TYx ad cy fr0 tx rby rnx f) (p1 : Int32) (hp1 : 0 ≤ p1.toInt ∧ p1.toInt ≤ 20) (sz : Nat) : TtV l yX2_weaken wsX2_weaken 1 40 [.ref (ad 10), .int p1] B0 adK adV D cy ad f sz (fun (g : Nat → va_E) => True ∧ (TYx ad cy fr0 tx rby rnx g)) := by
  refine TtV.of (cc := cX2_weaken) (maxL := 3) (own := RX2) (by decide) rfl (Nat.le_of_ble_eq_true rfl) rfl ?_
  intro p e s m below meth c A ls hx hb hr hml hts hown hlk hK hE hP hD hS hA hAB hl
  have hl : lv_has ls 3 [(0, .ref (ad 10)), (1, .int p1)] := hl
  refine st0 (fun H locs hP hS => ?_) hP hS
  have j2 : ∀ (N : Nat) (f : Nat → va_E) (H : Heap) (locs : List Loc) (ls : Array Slot) (v2_l2 : Int32), (13 - v2_l2.toInt ≤ (N : Int)) → (0 ≤ v2_l2.toInt ∧ v2_l2.toInt ≤ 12) → (0 ≤ p1.toInt ∧ p1.toInt ≤ 20) → (TYx ad cy fr0 tx rby rnx f) → (va_P D vwCl (wl ad f) H) → (va_D A (wl ad f)) → (va_S A s.heap H locs) → (lv_has ls 3 [(2, .int v2_l2), (0, .ref (ad 10)), (1, .int p1)]) → W p l e (rmO 1 40 0 0) s m ([.ref (ad 10), .int p1] : List Value).toArray below meth c H locs 0 0 (MQ below (va_Qv (fun (g : Nat → va_E) => True ∧ (TYx ad cy fr0 tx rby rnx g)) (fun g t => PstT D ad g t) A) ([.ref (ad 10), .int p1] : List Value).toArray s 0 0 A) (F0 m 2 ls []) := by
    intro N
    induction N with
    | zero => intro f H locs ls v2_l2 hN hv2_l2 hv2_l1 hT hP hD hS hl; exact absurd hN (by omega)
    | succ N ih2 =>
      intro f H locs ls v2_l2 hN hv2_l2 hv2_l1 hT hP hD hS hl
      refine lv_iload_n hx hb dX2_weaken_2 rfl (lv_at hl 0 rfl) ?_
      refine lv_bipush (v := 12) hx hb dX2_weaken_3 (by decide) ?_
      have ttl_12 := tl_12
      refine lv_icmp_ge (tgt := 32) hx hb dX2_weaken_5 (by decide) (fun c1 => ?_) (fun c1 => ?_)
      · have kc1 := c_le c1
        refine lv_aload_n hx hb dX2_weaken_32 rfl (lv_at hl 1 rfl) ?_
        refine lv_dup hx hb dX2_weaken_33 rfl ?_
        obtain ⟨x2, t3, x5, x6, e7, h4⟩ := (show okX2 ad 10 (f 10) from hT.1 10 (by decide))
        refine va_get (D := D) (cl := vwCl) (ci := 2) (v := .int x6) (C := RX2) (T := TX2) (N := 10) hx hb hts in_X2_weaken_X2 hown hK hP 10 (wl_at (by decide) e7) rfl 9 (by decide) (hts (.fieldLink RX2 61 "EightReasons$Loom" "era" "I") (List.mem_of_getElem? (i := 6) rfl)) (fun _ h9 => h9) rfl dX2_weaken_34 ?_
        refine lv_iconst (v := 1) hx hb dX2_weaken_37 (by decide) ?_
        refine lv_iadd hx hb dX2_weaken_38 ?_
        refine lv_topi (fun x8 ex8 => ?_)
        refine va_put (D := D) (cl := vwCl) (ci := 2) (v := .int x8) (ty := tyX2 9) (C := RX2) (T := TX2) (N := 10) hx hb hts in_X2_weaken_X2 tyX2 tyX2_ok nmX2 hown hK hP hD hS 10 (wl_at (by decide) e7) rfl 9 (by decide) (hts (.fieldLink RX2 61 "EightReasons$Loom" "era" "I") (List.mem_of_getElem? (i := 6) rfl)) (fun _ h9 => h9) rfl (tyX2_ok 9 (by decide)) rfl rfl (Nat.le_of_ble_eq_true rfl) dX2_weaken_39 (fun H locs hP hD hS => ?_)
        obtain ⟨f, hT, hP, hD, e9, hj10⟩ := stU (by decide) (TYx.up hT (by decide) (show OKx ad cy tx rby rnx 10 _ from (show okX2 ad 10 _ from ⟨x2, t3, x5, x8, rfl, h4⟩))) hP hD
        exact tV hx hb hr hlk hP hS ⟨trivial, hT⟩ dX2_weaken_42
      · have kc1 := c_nle c1
        refine lv_aload_n hx hb dX2_weaken_8 rfl (lv_at hl 1 rfl) ?_
        obtain ⟨x11, t12, x14, x15, e16, h13⟩ := (show okX2 ad 10 (f 10) from hT.1 10 (by decide))
        refine va_get (D := D) (cl := vwCl) (ci := 2) (v := .ref (ad 14)) (C := RX2) (T := TX2) (N := 10) hx hb hts in_X2_weaken_X2 hown hK hP 10 (wl_at (by decide) e16) rfl 6 (by decide) (hts (.fieldLink RX2 28 "EightReasons$Loom" "strong" "[I") (List.mem_of_getElem? (i := 1) rfl)) (fun _ h9 => h9) rfl dX2_weaken_9 ?_
        refine lv_iload_n hx hb dX2_weaken_12 rfl (lv_at hl 0 rfl) ?_
        refine lv_iconst (v := 0) hx hb dX2_weaken_13 (by decide) ?_
        refine lv_aload_n hx hb dX2_weaken_14 rfl (lv_at hl 1 rfl) ?_
        refine va_get (D := D) (cl := vwCl) (ci := 2) (v := .ref (ad 14)) (C := RX2) (T := TX2) (N := 10) hx hb hts in_X2_weaken_X2 hown hK hP 10 (wl_at (by decide) e16) rfl 6 (by decide) (hts (.fieldLink RX2 28 "EightReasons$Loom" "strong" "[I") (List.mem_of_getElem? (i := 1) rfl)) (fun _ h9 => h9) rfl dX2_weaken_15 ?_
        refine lv_iload_n hx hb dX2_weaken_18 rfl (lv_at hl 0 rfl) ?_
        obtain ⟨g18, e17⟩ := (show okI cy 12 (f 14) from hT.1 14 (by decide))
        refine va_iald hx hb hK hP 14 0 (wl_at (by decide) e17) rfl (vp_in_iff.mpr ⟨by omega, by omega⟩) dX2_weaken_19 ?_
        refine lv_topi (fun x19 ex19 => ?_)
        refine lv_iload_n hx hb dX2_weaken_20 rfl (lv_at hl 2 rfl) ?_
        refine lv_isub hx hb dX2_weaken_21 ?_
        refine lv_topi (fun x20 ex20 => ?_)
        have ttl_0 := tl_0
        refine va_mmax hx hb (hml.trans hl.1.symm) hown (hts (.methodLink RX2 68 Lib.Math.max.name) (List.mem_of_getElem? (i := 2) rfl)) (hts (.static Lib.Math.max.name) (List.mem_of_getElem? (i := 3) rfl)) (hts (.initialized "java/lang/Math") (List.mem_of_getElem? (i := 4) rfl)) (hts (.code Lib.Math.max.name Lib.Math.max.code 2 (some .int)) (List.mem_of_getElem? (i := 5) rfl)) (Nat.le_of_ble_eq_true rfl) (Nat.le_of_ble_eq_true rfl) (Nat.le_of_ble_eq_true rfl) (Nat.le_of_ble_eq_true rfl) dX2_weaken_22 ?_
        refine lv_topi (fun x21 ex21 => ?_)
        have hx21 := r_max ex21
        refine va_iast hx hb hK hP hD hS 14 0 (wl_at (by decide) e17) rfl (vp_in_iff.mpr ⟨by omega, by omega⟩) dX2_weaken_25 (fun H locs hP hD hS => ?_)
        obtain ⟨f, hT, hP, hD, e22, hj23⟩ := stU (by decide) (TYx.up hT (by decide) (show OKx ad cy tx rby rnx 14 _ from (show okI cy 12 _ from ⟨_, rfl⟩))) hP hD
        have e24 := (hj23 10 (by decide)).trans e16
        obtain ⟨x25, ex25⟩ : ∃ q : Int32, q = v2_l2 + Int32.ofInt (1) := ⟨_, rfl⟩
        refine lv_iinc (v := x25) (lv' := [(2, .int x25), (0, .ref (ad 10)), (1, .int p1)]) hx hb dX2_weaken_26 hl (k := 0) rfl ex25.symm (by decide) rfl (fun ls hl => ?_)
        have hx25 := r_inc ex25 (by decide) (by omega) (by omega)
        refine lv_goto (tgt := 2) hx hb dX2_weaken_29 (by decide) ?_
        exact ih2 f H locs ls x25 (by omega) (by omega) (by omega) hT hP hD hS (lv_sub hl [0, 1, 2] rfl)
  refine lv_iconst (v := 0) hx hb dX2_weaken_0 (by decide) ?_
  refine lv_istore_n (lv' := [(2, .int 0), (0, .ref (ad 10)), (1, .int p1)]) hx hb dX2_weaken_1 rfl hl (by decide) rfl (fun ls hl => ?_)
  have ttl_0 := tl_0
  exact j2 (Int.toNat (13 - (0 : Int32).toInt)) f H locs ls (0 : Int32) (by omega) (by omega) (by omega) hT hP hD hS (lv_sub hl [0, 1, 2] rfl)
set_option maxHeartbeats 4000000 in
set_option maxRecDepth 100000 in
theorem s_X8_shock_0 (l : Launch) (B0 : Nat) (adK adV : Nat → Nat) (D : va_G) (cy : Nat → ClassId) (ad : Nat → Nat) (fr0 : Nat → va_E) (tx : Int32) (rby : Int32) (rnx : Int32) (f : Nat → va_E) (hT : TYx ad cy fr0 tx rby rnx f) (p1 : Int32) (sz : Nat) : TtI l yX8_shock wsX8_shock 6 145 [.ref (ad 0), .int p1] B0 adK adV D cy ad f sz (fun (r : Int32) (g : Nat → va_E) => (-1 ≤ r.toInt ∧ r.toInt ≤ 63) ∧ (TYx ad cy fr0 tx rby rnx g)) := by
  refine TtI.of (cc := cX8_shock) (maxL := 2) (ty := .int) (own := RX8) (by decide) rfl (Nat.le_of_ble_eq_true rfl) rfl ?_
  intro p e s m below meth c A ls hx hb hr hml hts hown hlk hK hE hP hD hS hA hAB hl
  have hl : lv_has ls 2 [(0, .ref (ad 0)), (1, .int p1)] := hl
  refine st0 (fun H locs hP hS => ?_) hP hS
  refine lv_iload_n hx hb dX8_shock_0 rfl (lv_at hl 1 rfl) ?_
  have ttl_0 := tl_0
  refine lv_if_lt (tgt := 10) hx hb dX8_shock_1 (by decide) (fun c1 => ?_) (fun c1 => ?_)
  · have kc1 := c_lt c1
    refine lv_iconst (v := (-1)) hx hb dX8_shock_10 (by decide) ?_
    have ttl_m1 := tl_m1
    exact tI hx hb hr hlk rfl hP hS ⟨(by omega), hT⟩ dX8_shock_11
  · have kc1 := c_nlt c1
    refine lv_iload_n hx hb dX8_shock_4 rfl (lv_at hl 1 rfl) ?_
    refine lv_bipush (v := 20) hx hb dX8_shock_5 (by decide) ?_
    have ttl_20 := tl_20
    refine lv_icmp_le (tgt := 12) hx hb dX8_shock_7 (by decide) (fun c2 => ?_) (fun c2 => ?_)
    · have kc2 := c_le c2
      refine lv_aload_n hx hb dX8_shock_12 rfl (lv_at hl 0 rfl) ?_
      obtain ⟨t3, x5, x6, e8, h4, h7⟩ := (show okX8 ad tx 0 (f 0) from hT.1 0 (by decide))
      refine tVV (As := []) (rest := []) (i := 0) ⟨hx, hb, hml, hown, hts⟩ hK hE hP hD hS hA hAB (s_X8_look_0 l B0 adK adV D cy ad fr0 tx rby rnx f hT _) (cwV 0 hts gX8_shock_X8_look rfl rfl rfl (by decide +kernel) ⟨Nat.le_of_ble_eq_true rfl, Nat.le_of_ble_eq_true rfl⟩) (by decide) 8 e8 rfl rfl hl.1 rfl (Nat.le_of_ble_eq_true rfl) dX8_shock_13 ⟨Nat.le_of_ble_eq_true rfl, Nat.le_of_ble_eq_true rfl⟩ (fun f H locs hw hP hD hS => ?_)
      obtain ⟨hrs, hT⟩ := hw
      refine lv_aload_n hx hb dX8_shock_16 rfl (lv_at hl 0 rfl) ?_
      obtain ⟨t9, x11, x12, e14, h10, h13⟩ := (show okX8 ad tx 0 (f 0) from hT.1 0 (by decide))
      refine va_get (D := D) (cl := vwCl) (ci := 8) (v := .ref (ad 10)) (C := RX8) (T := TX8) (N := 13) hx hb hts in_X8_shock_X8 hown hK hP 0 (wl_at (by decide) e14) rfl 6 (by decide) (hts (.fieldLink RX8 44 "EightReasons" "loom" "LEightReasons$Loom;") (List.mem_of_getElem? (i := 1) rfl)) (fun _ h9 => h9) rfl dX8_shock_17 ?_
      refine lv_iload_n hx hb dX8_shock_20 rfl (lv_at hl 1 rfl) ?_
      obtain ⟨x15, t16, x18, x19, e20, h17⟩ := (show okX2 ad 10 (f 10) from hT.1 10 (by decide))
      refine tVV (As := [.int p1]) (rest := []) (i := 10) ⟨hx, hb, hml, hown, hts⟩ hK hE hP hD hS hA hAB (s_X2_weaken_0 l B0 adK adV D cy ad fr0 tx rby rnx f hT p1 (by omega) _) (cwV 1 hts gX8_shock_X2_weaken rfl rfl rfl (by decide +kernel) ⟨Nat.le_of_ble_eq_true rfl, Nat.le_of_ble_eq_true rfl⟩) (by decide) 2 e20 rfl rfl hl.1 rfl (Nat.le_of_ble_eq_true rfl) dX8_shock_21 ⟨Nat.le_of_ble_eq_true rfl, Nat.le_of_ble_eq_true rfl⟩ (fun f H locs hw hP hD hS => ?_)
      obtain ⟨hrs, hT⟩ := hw
      refine lv_aload_n hx hb dX8_shock_24 rfl (lv_at hl 0 rfl) ?_
      refine lv_aload_n hx hb dX8_shock_25 rfl (lv_at hl 0 rfl) ?_
      obtain ⟨t21, x23, x24, e26, h22, h25⟩ := (show okX8 ad tx 0 (f 0) from hT.1 0 (by decide))
      refine tVR (As := []) (rest := [.ref (ad 0)]) (i := 0) ⟨hx, hb, hml, hown, hts⟩ hK hE hP hD hS hA hAB (s_X8_now_0 l B0 adK adV D cy ad fr0 tx rby rnx f hT _) (cwV 0 hts gX8_shock_X8_now rfl rfl rfl (by decide +kernel) ⟨Nat.le_of_ble_eq_true rfl, Nat.le_of_ble_eq_true rfl⟩) (by decide) 8 e26 rfl rfl hl.1 rfl (Nat.le_of_ble_eq_true rfl) dX8_shock_26 ⟨Nat.le_of_ble_eq_true rfl, Nat.le_of_ble_eq_true rfl⟩ (fun ra g H locs hw hra hP hD hS => ?_)
      obtain ⟨hrs, rfl⟩ := hw
      obtain ⟨t27, h28, rfl⟩ := hra
      obtain ⟨x29, x31, x32, x33, e34, h30⟩ := (ty_state hT h28)
      refine va_get (D := D) (cl := vwCl) (ci := 4) (v := .int x29) (C := RX4) (T := TX4) (N := 5) hx hb hts in_X8_shock_X4 hown hK hP t27 (wl_at (x_lt (x_state0 h28)) e34) rfl 1 (by decide) (hts (.fieldLink RX8 145 "EightReasons$State" "tied" "I") (List.mem_of_getElem? (i := 2) rfl)) (fun _ h9 => h9) rfl dX8_shock_29 ?_
      refine tVI (As := [.int x29]) (rest := []) (i := 0) ⟨hx, hb, hml, hown, hts⟩ hK hE hP hD hS hA hAB (s_X8_claimsWith_0 l B0 adK adV D cy ad fr0 tx rby rnx f hT x29 (by omega) _) (cwV 1 hts gX8_shock_X8_claimsWith rfl rfl rfl (by decide +kernel) ⟨Nat.le_of_ble_eq_true rfl, Nat.le_of_ble_eq_true rfl⟩) (by decide) 8 e26 rfl rfl hl.1 rfl (Nat.le_of_ble_eq_true rfl) dX8_shock_32 ⟨Nat.le_of_ble_eq_true rfl, Nat.le_of_ble_eq_true rfl⟩ (fun r f H locs hw hP hD hS => ?_)
      obtain ⟨hrs, hT⟩ := hw
      obtain ⟨x35, rfl⟩ : ∃ q, q = r := ⟨_, rfl⟩
      have h36 := hrs
      exact tI hx hb hr hlk rfl hP hS ⟨(by omega), hT⟩ dX8_shock_35
    · have kc2 := c_nle c2
      refine lv_iconst (v := (-1)) hx hb dX8_shock_10 (by decide) ?_
      have ttl_m1 := tl_m1
      exact tI hx hb hr hlk rfl hP hS ⟨(by omega), hT⟩ dX8_shock_11
set_option maxHeartbeats 4000000 in
set_option maxRecDepth 100000 in
theorem s_X8_brings_0 (l : Launch) (B0 : Nat) (adK adV : Nat → Nat) (D : va_G) (cy : Nat → ClassId) (ad : Nat → Nat) (fr0 : Nat → va_E) (tx : Int32) (rby : Int32) (rnx : Int32) (f : Nat → va_E) (hT : TYx ad cy fr0 tx rby rnx f) (p1 : Int32) (sz : Nat) : TtI l yX8_brings wsX8_brings 6 144 [.ref (ad 0), .int p1] B0 adK adV D cy ad f sz (fun (r : Int32) (g : Nat → va_E) => True ∧ (TYx ad cy fr0 tx rby rnx g)) := by
  refine TtI.of (cc := cX8_brings) (maxL := 2) (ty := .int) (own := RX8) (by decide) rfl (Nat.le_of_ble_eq_true rfl) rfl ?_
  intro p e s m below meth c A ls hx hb hr hml hts hown hlk hK hE hP hD hS hA hAB hl
  have hl : lv_has ls 2 [(0, .ref (ad 0)), (1, .int p1)] := hl
  refine st0 (fun H locs hP hS => ?_) hP hS
  refine lv_aload_n hx hb dX8_brings_0 rfl (lv_at hl 0 rfl) ?_
  refine lv_iload_n hx hb dX8_brings_1 rfl (lv_at hl 1 rfl) ?_
  obtain ⟨t1, x3, x4, e6, h2, h5⟩ := (show okX8 ad tx 0 (f 0) from hT.1 0 (by decide))
  refine tVI (As := [.int p1]) (rest := []) (i := 0) ⟨hx, hb, hml, hown, hts⟩ hK hE hP hD hS hA hAB (s_X8_isTied_0 l B0 adK adV D cy ad fr0 tx rby rnx f hT p1 _) (cwV 1 hts gX8_brings_X8_isTied rfl rfl rfl (by decide +kernel) ⟨Nat.le_of_ble_eq_true rfl, Nat.le_of_ble_eq_true rfl⟩) (by decide) 8 e6 rfl rfl hl.1 rfl (Nat.le_of_ble_eq_true rfl) dX8_brings_2 ⟨Nat.le_of_ble_eq_true rfl, Nat.le_of_ble_eq_true rfl⟩ (fun r g H locs hw hP hD hS => ?_)
  obtain ⟨hrs, rfl⟩ := hw
  obtain ⟨x7, rfl⟩ : ∃ q, q = r := ⟨_, rfl⟩
  rcases hrs with ⟨rfl, h8, h9⟩ | rfl
  · refine lv_if_ne (tgt := 10) hx hb dX8_brings_5 (by decide) (fun _ => ?_) (fun c => absurd c (by decide))
    refine lv_aload_n hx hb dX8_brings_10 rfl (lv_at hl 0 rfl) ?_
    refine tVI (As := []) (rest := []) (i := 0) ⟨hx, hb, hml, hown, hts⟩ hK hE hP hD hS hA hAB (s_X8_standingNow_0 l B0 adK adV D cy ad fr0 tx rby rnx f hT _) (cwV 0 hts gX8_brings_X8_standingNow rfl rfl rfl (by decide +kernel) ⟨Nat.le_of_ble_eq_true rfl, Nat.le_of_ble_eq_true rfl⟩) (by decide) 8 e6 rfl rfl hl.1 rfl (Nat.le_of_ble_eq_true rfl) dX8_brings_11 ⟨Nat.le_of_ble_eq_true rfl, Nat.le_of_ble_eq_true rfl⟩ (fun r f H locs hw hP hD hS => ?_)
    obtain ⟨hrs, hT⟩ := hw
    obtain ⟨x10, rfl⟩ : ∃ q, q = r := ⟨_, rfl⟩
    have h11 := hrs
    refine lv_aload_n hx hb dX8_brings_14 rfl (lv_at hl 0 rfl) ?_
    obtain ⟨t12, x14, x15, e17, h13, h16⟩ := (show okX8 ad tx 0 (f 0) from hT.1 0 (by decide))
    refine va_get (D := D) (cl := vwCl) (ci := 8) (v := .ref (ad 10)) (C := RX8) (T := TX8) (N := 13) hx hb hts in_X8_brings_X8 hown hK hP 0 (wl_at (by decide) e17) rfl 6 (by decide) (hts (.fieldLink RX8 44 "EightReasons" "loom" "LEightReasons$Loom;") (List.mem_of_getElem? (i := 1) rfl)) (fun _ h9 => h9) rfl dX8_brings_15 ?_
    refine lv_aload_n hx hb dX8_brings_18 rfl (lv_at hl 0 rfl) ?_
    refine tVR (As := []) (rest := [.ref (ad 10), .int x10]) (i := 0) ⟨hx, hb, hml, hown, hts⟩ hK hE hP hD hS hA hAB (s_X8_now_0 l B0 adK adV D cy ad fr0 tx rby rnx f hT _) (cwV 0 hts gX8_brings_X8_now rfl rfl rfl (by decide +kernel) ⟨Nat.le_of_ble_eq_true rfl, Nat.le_of_ble_eq_true rfl⟩) (by decide) 8 e17 rfl rfl hl.1 rfl (Nat.le_of_ble_eq_true rfl) dX8_brings_19 ⟨Nat.le_of_ble_eq_true rfl, Nat.le_of_ble_eq_true rfl⟩ (fun ra g H locs hw hra hP hD hS => ?_)
    obtain ⟨hrs, rfl⟩ := hw
    obtain ⟨t18, h19, rfl⟩ := hra
    obtain ⟨x20, x22, x23, x24, e25, h21⟩ := (ty_state hT h19)
    refine va_get (D := D) (cl := vwCl) (ci := 4) (v := .int x20) (C := RX4) (T := TX4) (N := 5) hx hb hts in_X8_brings_X4 hown hK hP t18 (wl_at (x_lt (x_state0 h19)) e25) rfl 1 (by decide) (hts (.fieldLink RX8 145 "EightReasons$State" "tied" "I") (List.mem_of_getElem? (i := 2) rfl)) (fun _ h9 => h9) rfl dX8_brings_22 ?_
    refine lv_iconst (v := 1) hx hb dX8_brings_25 (by decide) ?_
    refine lv_iload_n hx hb dX8_brings_26 rfl (lv_at hl 1 rfl) ?_
    refine lv_ishl hx hb dX8_brings_27 ?_
    refine lv_topi (fun x26 ex26 => ?_)
    have hx26 := r_shl (K := 11) (M := 2048) ex26 (by decide) (by decide) (by omega) (by omega)
    refine lv_ixor hx hb dX8_brings_28 ?_
    refine lv_topi (fun x27 ex27 => ?_)
    have hx27 := r_xor (k := 12) (K := 4096) ex27 (by decide) (by decide) (by omega) (by omega) (by omega) (by omega)
    obtain ⟨x28, t29, x31, x32, e33, h30⟩ := (show okX2 ad 10 (f 10) from hT.1 10 (by decide))
    refine tVI (As := [.int x27]) (rest := [.int x10]) (i := 10) ⟨hx, hb, hml, hown, hts⟩ hK hE hP hD hS hA hAB (s_X2_standing_0 l B0 adK adV D cy ad fr0 tx rby rnx f hT x27 _) (cwV 1 hts gX8_brings_X2_standing rfl rfl rfl (by decide +kernel) ⟨Nat.le_of_ble_eq_true rfl, Nat.le_of_ble_eq_true rfl⟩) (by decide) 2 e33 rfl rfl hl.1 rfl (Nat.le_of_ble_eq_true rfl) dX8_brings_29 ⟨Nat.le_of_ble_eq_true rfl, Nat.le_of_ble_eq_true rfl⟩ (fun r f H locs hw hP hD hS => ?_)
    obtain ⟨hrs, hT⟩ := hw
    obtain ⟨x34, rfl⟩ : ∃ q, q = r := ⟨_, rfl⟩
    have h35 := hrs
    refine lv_iconst (v := (-1)) hx hb dX8_brings_32 (by decide) ?_
    refine lv_ixor hx hb dX8_brings_33 ?_
    refine lv_topi (fun x36 ex36 => ?_)
    refine lv_iand hx hb dX8_brings_34 ?_
    refine lv_topi (fun x37 ex37 => ?_)
    exact tI hx hb hr hlk rfl hP hS ⟨trivial, hT⟩ dX8_brings_35
  · refine lv_if_ne (tgt := 10) hx hb dX8_brings_5 (by decide) (fun c => absurd (by decide) c) (fun _ => ?_)
    refine lv_iconst (v := (-1)) hx hb dX8_brings_8 (by decide) ?_
    have ttl_m1 := tl_m1
    exact tI hx hb hr hlk rfl hP hS ⟨trivial, hT⟩ dX8_brings_9
set_option maxHeartbeats 4000000 in
set_option maxRecDepth 100000 in
theorem s_X8_gaps_0 (l : Launch) (B0 : Nat) (adK adV : Nat → Nat) (D : va_G) (cy : Nat → ClassId) (ad : Nat → Nat) (fr0 : Nat → va_E) (tx : Int32) (rby : Int32) (rnx : Int32) (f : Nat → va_E) (hT : TYx ad cy fr0 tx rby rnx f) (sz : Nat) : TtI l yX8_gaps wsX8_gaps 2 42 [.ref (ad 0)] B0 adK adV D cy ad f sz (fun (r : Int32) (g : Nat → va_E) => (0 ≤ r.toInt ∧ r.toInt ≤ 4095) ∧ (f = g)) := by
  refine TtI.of (cc := cX8_gaps) (maxL := 3) (ty := .int) (own := RX8) (by decide) rfl (Nat.le_of_ble_eq_true rfl) rfl ?_
  intro p e s m below meth c A ls hx hb hr hml hts hown hlk hK hE hP hD hS hA hAB hl
  have hl : lv_has ls 3 [(0, .ref (ad 0))] := hl
  refine st0 (fun H locs hP hS => ?_) hP hS
  have j4 : ∀ (N : Nat) (H : Heap) (locs : List Loc) (ls : Array Slot) (v4_l2 : Int32) (v4_l1 : Int32), (11 - v4_l2.toInt ≤ (N : Int)) → (0 ≤ v4_l2.toInt ∧ v4_l2.toInt ≤ 10) → (0 ≤ v4_l1.toInt ∧ v4_l1.toInt ≤ 4095) → (va_P D vwCl (wl ad f) H) → (va_D A (wl ad f)) → (va_S A s.heap H locs) → (lv_has ls 3 [(2, .int v4_l2), (1, .int v4_l1), (0, .ref (ad 0))]) → W p l e (rmO 2 42 0 0) s m ([.ref (ad 0)] : List Value).toArray below meth c H locs 0 0 (MQ below (va_Qi (fun (r : Int32) (g : Nat → va_E) => (0 ≤ r.toInt ∧ r.toInt ≤ 4095) ∧ (f = g)) (fun g t => PstT D ad g t) A) ([.ref (ad 0)] : List Value).toArray s 0 0 A) (F0 m 4 ls []) := by
    intro N
    induction N with
    | zero => intro H locs ls v4_l2 v4_l1 hN hv4_l2 hv4_l1 hP hD hS hl; exact absurd hN (by omega)
    | succ N ih4 =>
      intro H locs ls v4_l2 v4_l1 hN hv4_l2 hv4_l1 hP hD hS hl
      have j52 : ∀ (H : Heap) (locs : List Loc) (ls : Array Slot) (v52_l1 : Int32), (0 ≤ v4_l2.toInt ∧ v4_l2.toInt ≤ 9) → (0 ≤ v52_l1.toInt ∧ v52_l1.toInt ≤ 4095) → (va_P D vwCl (wl ad f) H) → (va_D A (wl ad f)) → (va_S A s.heap H locs) → (lv_has ls 3 [(2, .int v4_l2), (1, .int v52_l1), (0, .ref (ad 0))]) → W p l e (rmO 2 42 0 0) s m ([.ref (ad 0)] : List Value).toArray below meth c H locs 0 0 (MQ below (va_Qi (fun (r : Int32) (g : Nat → va_E) => (0 ≤ r.toInt ∧ r.toInt ≤ 4095) ∧ (f = g)) (fun g t => PstT D ad g t) A) ([.ref (ad 0)] : List Value).toArray s 0 0 A) (F0 m 52 ls []) := by
        intro H locs ls v52_l1 hv52_l2 hv52_l1 hP hD hS hl
        obtain ⟨x1, ex1⟩ : ∃ q : Int32, q = v4_l2 + Int32.ofInt (1) := ⟨_, rfl⟩
        refine lv_iinc (v := x1) (lv' := [(2, .int x1), (1, .int v52_l1), (0, .ref (ad 0))]) hx hb dX8_gaps_52 hl (k := 0) rfl ex1.symm (by decide) rfl (fun ls hl => ?_)
        have hx1 := r_inc ex1 (by decide) (by omega) (by omega)
        refine lv_goto (tgt := 4) hx hb dX8_gaps_55 (by decide) ?_
        exact ih4 H locs ls x1 v52_l1 (by omega) (by omega) (by omega) hP hD hS (lv_sub hl [0, 1, 2] rfl)
      refine lv_iload_n hx hb dX8_gaps_4 rfl (lv_at hl 0 rfl) ?_
      refine lv_aload_n hx hb dX8_gaps_5 rfl (lv_at hl 2 rfl) ?_
      obtain ⟨t2, x4, x5, e7, h3, h6⟩ := (show okX8 ad tx 0 (f 0) from hT.1 0 (by decide))
      refine va_get (D := D) (cl := vwCl) (ci := 8) (v := .ref (ad t2)) (C := RX8) (T := TX8) (N := 13) hx hb hts in_X8_gaps_X8 hown hK hP 0 (wl_at (by decide) e7) rfl 1 (by decide) (hts (.fieldLink RX8 19 "EightReasons" "told" "LEightReasons$Suit;") (List.mem_of_getElem? (i := 1) rfl)) (fun _ h9 => h9) rfl dX8_gaps_6 ?_
      obtain ⟨x8, x10, x11, x13, x14, e15, h9, h12⟩ := (ty_suit hT h3)
      refine va_get (D := D) (cl := vwCl) (ci := 5) (v := .int x8) (C := RX5) (T := TX5) (N := 12) hx hb hts in_X8_gaps_X5 hown hK hP t2 (wl_at (x_lt (x_suit0 h3)) e15) rfl 0 (by decide) (hts (.fieldLink RX8 105 "EightReasons$Suit" "points" "I") (List.mem_of_getElem? (i := 2) rfl)) (fun _ h9 => h9) rfl dX8_gaps_9 ?_
      refine lv_icmp_ge (tgt := 58) hx hb dX8_gaps_12 (by decide) (fun c16 => ?_) (fun c16 => ?_)
      · have kc16 := c_le c16
        refine lv_iload_n hx hb dX8_gaps_58 rfl (lv_at hl 1 rfl) ?_
        exact tI hx hb hr hlk rfl hP hS ⟨(by omega), rfl⟩ dX8_gaps_59
      · have kc16 := c_nle c16
        refine lv_aload_n hx hb dX8_gaps_15 rfl (lv_at hl 2 rfl) ?_
        refine va_get (D := D) (cl := vwCl) (ci := 8) (v := .ref (ad t2)) (C := RX8) (T := TX8) (N := 13) hx hb hts in_X8_gaps_X8 hown hK hP 0 (wl_at (by decide) e7) rfl 1 (by decide) (hts (.fieldLink RX8 19 "EightReasons" "told" "LEightReasons$Suit;") (List.mem_of_getElem? (i := 1) rfl)) (fun _ h9 => h9) rfl dX8_gaps_16 ?_
        refine lv_iload_n hx hb dX8_gaps_19 rfl (lv_at hl 0 rfl) ?_
        refine tVI (As := [.int v4_l2]) (rest := []) (i := t2) ⟨hx, hb, hml, hown, hts⟩ hK hE hP hD hS hA hAB (s_X5_isClaim_0 l B0 adK adV D cy ad fr0 tx rby rnx f hT t2 h3 v4_l2 _) (cwV 1 hts gX8_gaps_X5_isClaim rfl rfl rfl (by decide +kernel) ⟨Nat.le_of_ble_eq_true rfl, Nat.le_of_ble_eq_true rfl⟩) (x_lt (x_suit0 h3)) 5 e15 rfl rfl hl.1 rfl (Nat.le_of_ble_eq_true rfl) dX8_gaps_20 ⟨Nat.le_of_ble_eq_true rfl, Nat.le_of_ble_eq_true rfl⟩ (fun r g H locs hw hP hD hS => ?_)
        obtain ⟨hrs, rfl⟩ := hw
        obtain ⟨x17, rfl⟩ : ∃ q, q = r := ⟨_, rfl⟩
        rcases hrs with ⟨rfl, h18, h19⟩ | rfl
        · refine lv_if_eq (tgt := 52) hx hb dX8_gaps_23 (by decide) (fun c => absurd c (by decide)) (fun _ => ?_)
          refine lv_aload_n hx hb dX8_gaps_26 rfl (lv_at hl 2 rfl) ?_
          refine va_get (D := D) (cl := vwCl) (ci := 8) (v := .ref (ad t2)) (C := RX8) (T := TX8) (N := 13) hx hb hts in_X8_gaps_X8 hown hK hP 0 (wl_at (by decide) e7) rfl 1 (by decide) (hts (.fieldLink RX8 19 "EightReasons" "told" "LEightReasons$Suit;") (List.mem_of_getElem? (i := 1) rfl)) (fun _ h9 => h9) rfl dX8_gaps_27 ?_
          refine va_get (D := D) (cl := vwCl) (ci := 5) (v := .ref (ad (t2 + 2))) (C := RX5) (T := TX5) (N := 12) hx hb hts in_X8_gaps_X5 hown hK hP t2 (wl_at (x_lt (x_suit0 h3)) e15) rfl 6 (by decide) (hts (.fieldLink RX8 127 "EightReasons$Suit" "into" "[I") (List.mem_of_getElem? (i := 3) rfl)) (fun _ h9 => h9) rfl dX8_gaps_30 ?_
          refine lv_iload_n hx hb dX8_gaps_33 rfl (lv_at hl 0 rfl) ?_
          obtain ⟨g21, e20⟩ := (ty_suit2 hT h3)
          refine va_iald hx hb hK hP (t2 + 2) 0 (wl_at (x_lt (x_suit h3 (by decide))) e20) rfl (vp_in_iff.mpr ⟨by omega, by omega⟩) dX8_gaps_34 ?_
          refine lv_topi (fun x22 ex22 => ?_)
          refine lv_aload_n hx hb dX8_gaps_35 rfl (lv_at hl 2 rfl) ?_
          refine tVR (As := []) (rest := [.int x22]) (i := 0) ⟨hx, hb, hml, hown, hts⟩ hK hE hP hD hS hA hAB (s_X8_now_0 l B0 adK adV D cy ad fr0 tx rby rnx f hT _) (cwV 0 hts gX8_gaps_X8_now rfl rfl rfl (by decide +kernel) ⟨Nat.le_of_ble_eq_true rfl, Nat.le_of_ble_eq_true rfl⟩) (by decide) 8 e7 rfl rfl hl.1 rfl (Nat.le_of_ble_eq_true rfl) dX8_gaps_36 ⟨Nat.le_of_ble_eq_true rfl, Nat.le_of_ble_eq_true rfl⟩ (fun ra g H locs hw hra hP hD hS => ?_)
          obtain ⟨hrs, rfl⟩ := hw
          obtain ⟨t23, h24, rfl⟩ := hra
          obtain ⟨x25, x27, x28, x29, e30, h26⟩ := (ty_state hT h24)
          refine va_get (D := D) (cl := vwCl) (ci := 4) (v := .int x25) (C := RX4) (T := TX4) (N := 5) hx hb hts in_X8_gaps_X4 hown hK hP t23 (wl_at (x_lt (x_state0 h24)) e30) rfl 1 (by decide) (hts (.fieldLink RX8 145 "EightReasons$State" "tied" "I") (List.mem_of_getElem? (i := 4) rfl)) (fun _ h9 => h9) rfl dX8_gaps_39 ?_
          refine lv_iand hx hb dX8_gaps_42 ?_
          refine lv_topi (fun x31 ex31 => ?_)
          have hx31 := r_andr ex31 (by omega)
          have ttl_0 := tl_0
          refine lv_if_ne (tgt := 52) hx hb dX8_gaps_43 (by decide) (fun c32 => ?_) (fun c32 => ?_)
          · have kc32 := c_ne c32
            exact j52 H locs ls v4_l1 (by omega) (by omega) hP hD hS (lv_sub hl [0, 1, 2] rfl)
          · have kc32 := c_eq c32
            refine lv_iload_n hx hb dX8_gaps_46 rfl (lv_at hl 1 rfl) ?_
            refine lv_iconst (v := 1) hx hb dX8_gaps_47 (by decide) ?_
            refine lv_iload_n hx hb dX8_gaps_48 rfl (lv_at hl 0 rfl) ?_
            refine lv_ishl hx hb dX8_gaps_49 ?_
            refine lv_topi (fun x33 ex33 => ?_)
            have hx33 := r_shl (K := 9) (M := 512) ex33 (by decide) (by decide) (by omega) (by omega)
            refine lv_ior hx hb dX8_gaps_50 ?_
            refine lv_topi (fun x34 ex34 => ?_)
            have hx34 := r_or (k := 12) (K := 4096) ex34 (by decide) (by decide) (by omega) (by omega) (by omega) (by omega)
            refine lv_istore_n (lv' := [(1, .int x34), (2, .int v4_l2), (0, .ref (ad 0))]) hx hb dX8_gaps_51 rfl hl (by decide) rfl (fun ls hl => ?_)
            exact j52 H locs ls x34 (by omega) (by omega) hP hD hS (lv_sub hl [1, 0, 2] rfl)
        · refine lv_if_eq (tgt := 52) hx hb dX8_gaps_23 (by decide) (fun _ => ?_) (fun c => absurd (by decide) c)
          exact j52 H locs ls v4_l1 (by omega) (by omega) hP hD hS (lv_sub hl [0, 1, 2] rfl)
  refine lv_iconst (v := 0) hx hb dX8_gaps_0 (by decide) ?_
  refine lv_istore_n (lv' := [(1, .int 0), (0, .ref (ad 0))]) hx hb dX8_gaps_1 rfl hl (by decide) rfl (fun ls hl => ?_)
  refine lv_iconst (v := 0) hx hb dX8_gaps_2 (by decide) ?_
  refine lv_istore_n (lv' := [(2, .int 0), (1, .int 0), (0, .ref (ad 0))]) hx hb dX8_gaps_3 rfl hl (by decide) rfl (fun ls hl => ?_)
  have ttl_0 := tl_0
  exact j4 (Int.toNat (11 - (0 : Int32).toInt)) H locs ls (0 : Int32) (0 : Int32) (by omega) (by omega) (by omega) hP hD hS (lv_sub hl [0, 1, 2] rfl)
set_option maxHeartbeats 4000000 in
set_option maxRecDepth 100000 in
theorem s_X8_best_0 (l : Launch) (B0 : Nat) (adK adV : Nat → Nat) (D : va_G) (cy : Nat → ClassId) (ad : Nat → Nat) (fr0 : Nat → va_E) (tx : Int32) (rby : Int32) (rnx : Int32) (f : Nat → va_E) (hT : TYx ad cy fr0 tx rby rnx f) (p1 : Int32) (sz : Nat) : TtI l yX8_best wsX8_best 6 144 [.ref (ad 0), .int p1] B0 adK adV D cy ad f sz (fun (r : Int32) (g : Nat → va_E) => (-1 ≤ r.toInt ∧ r.toInt ≤ 11) ∧ (TYx ad cy fr0 tx rby rnx g)) := by
  refine TtI.of (cc := cX8_best) (maxL := 6) (ty := .int) (own := RX8) (by decide) rfl (Nat.le_of_ble_eq_true rfl) rfl ?_
  intro p e s m below meth c A ls hx hb hr hml hts hown hlk hK hE hP hD hS hA hAB hl
  have hl : lv_has ls 6 [(0, .ref (ad 0)), (1, .int p1)] := hl
  refine st0 (fun H locs hP hS => ?_) hP hS
  have j26 : ∀ (N : Nat) (f : Nat → va_E) (H : Heap) (locs : List Loc) (ls : Array Slot) (v26_l5 : Int32) (v26_l4 : Int32) (v26_l3 : Int32) (v26_l2 : Int32), (13 - v26_l5.toInt ≤ (N : Int)) → (0 ≤ v26_l5.toInt ∧ v26_l5.toInt ≤ 12) → (-1 ≤ v26_l3.toInt ∧ v26_l3.toInt ≤ 11) → (0 ≤ p1.toInt ∧ p1.toInt ≤ 9) → (TYx ad cy fr0 tx rby rnx f) → (va_P D vwCl (wl ad f) H) → (va_D A (wl ad f)) → (va_S A s.heap H locs) → (lv_has ls 6 [(5, .int v26_l5), (4, .int v26_l4), (3, .int v26_l3), (2, .int v26_l2), (0, .ref (ad 0)), (1, .int p1)]) → W p l e (rmO 6 144 0 0) s m ([.ref (ad 0), .int p1] : List Value).toArray below meth c H locs 0 0 (MQ below (va_Qi (fun (r : Int32) (g : Nat → va_E) => (-1 ≤ r.toInt ∧ r.toInt ≤ 11) ∧ (TYx ad cy fr0 tx rby rnx g)) (fun g t => PstT D ad g t) A) ([.ref (ad 0), .int p1] : List Value).toArray s 0 0 A) (F0 m 26 ls []) := by
    intro N
    induction N with
    | zero => intro f H locs ls v26_l5 v26_l4 v26_l3 v26_l2 hN hv26_l5 hv26_l3 hv26_l1 hT hP hD hS hl; exact absurd hN (by omega)
    | succ N ih26 =>
      intro f H locs ls v26_l5 v26_l4 v26_l3 v26_l2 hN hv26_l5 hv26_l3 hv26_l1 hT hP hD hS hl
      have j102 : ∀ (f : Nat → va_E) (H : Heap) (locs : List Loc) (ls : Array Slot) (v102_l4 : Int32) (v102_l3 : Int32), (0 ≤ v26_l5.toInt ∧ v26_l5.toInt ≤ 11) → (-1 ≤ v102_l3.toInt ∧ v102_l3.toInt ≤ 11) → (0 ≤ p1.toInt ∧ p1.toInt ≤ 9) → (TYx ad cy fr0 tx rby rnx f) → (va_P D vwCl (wl ad f) H) → (va_D A (wl ad f)) → (va_S A s.heap H locs) → (lv_has ls 6 [(5, .int v26_l5), (4, .int v102_l4), (3, .int v102_l3), (2, .int v26_l2), (0, .ref (ad 0)), (1, .int p1)]) → W p l e (rmO 6 144 0 0) s m ([.ref (ad 0), .int p1] : List Value).toArray below meth c H locs 0 0 (MQ below (va_Qi (fun (r : Int32) (g : Nat → va_E) => (-1 ≤ r.toInt ∧ r.toInt ≤ 11) ∧ (TYx ad cy fr0 tx rby rnx g)) (fun g t => PstT D ad g t) A) ([.ref (ad 0), .int p1] : List Value).toArray s 0 0 A) (F0 m 102 ls []) := by
        intro f H locs ls v102_l4 v102_l3 hv102_l5 hv102_l3 hv102_l1 hT hP hD hS hl
        obtain ⟨x1, ex1⟩ : ∃ q : Int32, q = v26_l5 + Int32.ofInt (1) := ⟨_, rfl⟩
        refine lv_iinc (v := x1) (lv' := [(5, .int x1), (4, .int v102_l4), (3, .int v102_l3), (2, .int v26_l2), (0, .ref (ad 0)), (1, .int p1)]) hx hb dX8_best_102 hl (k := 0) rfl ex1.symm (by decide) rfl (fun ls hl => ?_)
        have hx1 := r_inc ex1 (by decide) (by omega) (by omega)
        refine lv_goto (tgt := 26) hx hb dX8_best_105 (by decide) ?_
        exact ih26 f H locs ls x1 v102_l4 v102_l3 v26_l2 (by omega) (by omega) (by omega) (by omega) hT hP hD hS (lv_sub hl [0, 1, 2, 3, 4, 5] rfl)
      refine lv_iload hx hb dX8_best_26 (lv_at hl 0 rfl) ?_
      refine lv_aload_n hx hb dX8_best_28 rfl (lv_at hl 4 rfl) ?_
      obtain ⟨t2, x4, x5, e7, h3, h6⟩ := (show okX8 ad tx 0 (f 0) from hT.1 0 (by decide))
      refine va_get (D := D) (cl := vwCl) (ci := 8) (v := .ref (ad t2)) (C := RX8) (T := TX8) (N := 13) hx hb hts in_X8_best_X8 hown hK hP 0 (wl_at (by decide) e7) rfl 1 (by decide) (hts (.fieldLink RX8 19 "EightReasons" "told" "LEightReasons$Suit;") (List.mem_of_getElem? (i := 1) rfl)) (fun _ h9 => h9) rfl dX8_best_29 ?_
      obtain ⟨x8, x10, x11, x13, x14, e15, h9, h12⟩ := (ty_suit hT h3)
      refine va_get (D := D) (cl := vwCl) (ci := 5) (v := .int x11) (C := RX5) (T := TX5) (N := 12) hx hb hts in_X8_best_X5 hown hK hP t2 (wl_at (x_lt (x_suit0 h3)) e15) rfl 2 (by decide) (hts (.fieldLink RX8 157 "EightReasons$Suit" "strands" "I") (List.mem_of_getElem? (i := 2) rfl)) (fun _ h9 => h9) rfl dX8_best_32 ?_
      refine lv_icmp_ge (tgt := 108) hx hb dX8_best_35 (by decide) (fun c16 => ?_) (fun c16 => ?_)
      · have kc16 := c_le c16
        refine lv_iload_n hx hb dX8_best_108 rfl (lv_at hl 2 rfl) ?_
        exact tI hx hb hr hlk rfl hP hS ⟨(by omega), hT⟩ dX8_best_109
      · have kc16 := c_nle c16
        refine lv_aload_n hx hb dX8_best_38 rfl (lv_at hl 4 rfl) ?_
        refine va_get (D := D) (cl := vwCl) (ci := 8) (v := .ref (ad t2)) (C := RX8) (T := TX8) (N := 13) hx hb hts in_X8_best_X8 hown hK hP 0 (wl_at (by decide) e7) rfl 1 (by decide) (hts (.fieldLink RX8 19 "EightReasons" "told" "LEightReasons$Suit;") (List.mem_of_getElem? (i := 1) rfl)) (fun _ h9 => h9) rfl dX8_best_39 ?_
        refine va_get (D := D) (cl := vwCl) (ci := 5) (v := .ref (ad (t2 + 2))) (C := RX5) (T := TX5) (N := 12) hx hb hts in_X8_best_X5 hown hK hP t2 (wl_at (x_lt (x_suit0 h3)) e15) rfl 6 (by decide) (hts (.fieldLink RX8 127 "EightReasons$Suit" "into" "[I") (List.mem_of_getElem? (i := 3) rfl)) (fun _ h9 => h9) rfl dX8_best_42 ?_
        refine lv_iload_n hx hb dX8_best_45 rfl (lv_at hl 5 rfl) ?_
        obtain ⟨g18, e17⟩ := (ty_suit2 hT h3)
        refine va_iald hx hb hK hP (t2 + 2) 0 (wl_at (x_lt (x_suit h3 (by decide))) e17) rfl (vp_in_iff.mpr ⟨by omega, by omega⟩) dX8_best_46 ?_
        refine lv_topi (fun x19 ex19 => ?_)
        refine lv_iload hx hb dX8_best_47 (lv_at hl 0 rfl) ?_
        refine tSI (As := [.int x19, .int v26_l5]) (rest := []) ⟨hx, hb, hml, hown, hts⟩ hK hE hP hD hS hA hAB (s_X8_has_0 l B0 adK adV D cy ad f x19 v26_l5 _) (va_cwS 2 hts gX8_best_X8_has rfl rfl rfl (by decide +kernel) ⟨Nat.le_of_ble_eq_true rfl, Nat.le_of_ble_eq_true rfl⟩) rfl hl.1 rfl (Nat.le_of_ble_eq_true rfl) dX8_best_49 ⟨Nat.le_of_ble_eq_true rfl, Nat.le_of_ble_eq_true rfl⟩ (fun r g H locs hw hP hD hS => ?_)
        obtain ⟨hrs, rfl⟩ := hw
        obtain ⟨x20, rfl⟩ : ∃ q, q = r := ⟨_, rfl⟩
        rcases hrs with rfl | rfl
        · refine lv_if_eq (tgt := 102) hx hb dX8_best_52 (by decide) (fun c => absurd c (by decide)) (fun _ => ?_)
          refine lv_iload_n hx hb dX8_best_55 rfl (lv_at hl 3 rfl) ?_
          refine lv_aload_n hx hb dX8_best_56 rfl (lv_at hl 4 rfl) ?_
          refine va_get (D := D) (cl := vwCl) (ci := 8) (v := .ref (ad t2)) (C := RX8) (T := TX8) (N := 13) hx hb hts in_X8_best_X8 hown hK hP 0 (wl_at (by decide) e7) rfl 1 (by decide) (hts (.fieldLink RX8 19 "EightReasons" "told" "LEightReasons$Suit;") (List.mem_of_getElem? (i := 1) rfl)) (fun _ h9 => h9) rfl dX8_best_57 ?_
          refine va_get (D := D) (cl := vwCl) (ci := 5) (v := .ref (ad (t2 + 4))) (C := RX5) (T := TX5) (N := 12) hx hb hts in_X8_best_X5 hown hK hP t2 (wl_at (x_lt (x_suit0 h3)) e15) rfl 8 (by decide) (hts (.fieldLink RX8 136 "EightReasons$Suit" "source" "[I") (List.mem_of_getElem? (i := 4) rfl)) (fun _ h9 => h9) rfl dX8_best_60 ?_
          refine lv_iload hx hb dX8_best_63 (lv_at hl 0 rfl) ?_
          obtain ⟨g23, e21, h22⟩ := (ty_suit4 hT h3)
          refine va_iald hx hb hK hP (t2 + 4) 0 (wl_at (x_lt (x_suit h3 (by decide))) e21) rfl (vp_in_iff.mpr ⟨by omega, by omega⟩) dX8_best_65 ?_
          refine lv_topi (fun x24 ex24 => ?_)
          have hx24 := r_el (h22 _ (Nat.mod_one _)) ex24
          refine tSI (As := [.int v26_l2, .int x24]) (rest := []) ⟨hx, hb, hml, hown, hts⟩ hK hE hP hD hS hA hAB (s_X8_has_0 l B0 adK adV D cy ad f v26_l2 x24 _) (va_cwS 2 hts gX8_best_X8_has rfl rfl rfl (by decide +kernel) ⟨Nat.le_of_ble_eq_true rfl, Nat.le_of_ble_eq_true rfl⟩) rfl hl.1 rfl (Nat.le_of_ble_eq_true rfl) dX8_best_66 ⟨Nat.le_of_ble_eq_true rfl, Nat.le_of_ble_eq_true rfl⟩ (fun r g H locs hw hP hD hS => ?_)
          obtain ⟨hrs, rfl⟩ := hw
          obtain ⟨x25, rfl⟩ : ∃ q, q = r := ⟨_, rfl⟩
          rcases hrs with rfl | rfl
          · refine lv_if_eq (tgt := 102) hx hb dX8_best_69 (by decide) (fun c => absurd c (by decide)) (fun _ => ?_)
            refine lv_aload_n hx hb dX8_best_72 rfl (lv_at hl 4 rfl) ?_
            refine va_get (D := D) (cl := vwCl) (ci := 8) (v := .ref (ad 10)) (C := RX8) (T := TX8) (N := 13) hx hb hts in_X8_best_X8 hown hK hP 0 (wl_at (by decide) e7) rfl 6 (by decide) (hts (.fieldLink RX8 44 "EightReasons" "loom" "LEightReasons$Loom;") (List.mem_of_getElem? (i := 5) rfl)) (fun _ h9 => h9) rfl dX8_best_73 ?_
            obtain ⟨x26, t27, x29, x30, e31, h28⟩ := (show okX2 ad 10 (f 10) from hT.1 10 (by decide))
            refine va_get (D := D) (cl := vwCl) (ci := 2) (v := .ref (ad 11)) (C := RX2) (T := TX2) (N := 10) hx hb hts in_X8_best_X2 hown hK hP 10 (wl_at (by decide) e31) rfl 1 (by decide) (hts (.fieldLink RX8 154 "EightReasons$Loom" "load" "[I") (List.mem_of_getElem? (i := 6) rfl)) (fun _ h9 => h9) rfl dX8_best_76 ?_
            refine lv_iload hx hb dX8_best_79 (lv_at hl 0 rfl) ?_
            obtain ⟨g33, e32⟩ := (show okI cy 12 (f 11) from hT.1 11 (by decide))
            refine va_iald hx hb hK hP 11 0 (wl_at (by decide) e32) rfl (vp_in_iff.mpr ⟨by omega, by omega⟩) dX8_best_81 ?_
            refine lv_topi (fun x34 ex34 => ?_)
            refine lv_iload hx hb dX8_best_82 (lv_at hl 1 rfl) ?_
            refine lv_icmp_le (tgt := 102) hx hb dX8_best_84 (by decide) (fun c35 => ?_) (fun c35 => ?_)
            · have kc35 := c_le c35
              exact j102 f H locs ls v26_l4 v26_l3 (by omega) (by omega) (by omega) hT hP hD hS (lv_sub hl [0, 1, 2, 3, 4, 5] rfl)
            · have kc35 := c_nle c35
              refine lv_iload hx hb dX8_best_87 (lv_at hl 0 rfl) ?_
              refine lv_istore_n (lv' := [(3, .int v26_l5), (5, .int v26_l5), (4, .int v26_l4), (2, .int v26_l2), (0, .ref (ad 0)), (1, .int p1)]) hx hb dX8_best_89 rfl hl (by decide) rfl (fun ls hl => ?_)
              refine lv_aload_n hx hb dX8_best_90 rfl (lv_at hl 4 rfl) ?_
              refine va_get (D := D) (cl := vwCl) (ci := 8) (v := .ref (ad 10)) (C := RX8) (T := TX8) (N := 13) hx hb hts in_X8_best_X8 hown hK hP 0 (wl_at (by decide) e7) rfl 6 (by decide) (hts (.fieldLink RX8 44 "EightReasons" "loom" "LEightReasons$Loom;") (List.mem_of_getElem? (i := 5) rfl)) (fun _ h9 => h9) rfl dX8_best_91 ?_
              refine va_get (D := D) (cl := vwCl) (ci := 2) (v := .ref (ad 11)) (C := RX2) (T := TX2) (N := 10) hx hb hts in_X8_best_X2 hown hK hP 10 (wl_at (by decide) e31) rfl 1 (by decide) (hts (.fieldLink RX8 154 "EightReasons$Loom" "load" "[I") (List.mem_of_getElem? (i := 6) rfl)) (fun _ h9 => h9) rfl dX8_best_94 ?_
              refine lv_iload hx hb dX8_best_97 (lv_at hl 1 rfl) ?_
              refine va_iald hx hb hK hP 11 0 (wl_at (by decide) e32) rfl (vp_in_iff.mpr ⟨by omega, by omega⟩) dX8_best_99 ?_
              refine lv_topi (fun x36 ex36 => ?_)
              refine lv_istore (lv' := [(4, .int x36), (3, .int v26_l5), (5, .int v26_l5), (2, .int v26_l2), (0, .ref (ad 0)), (1, .int p1)]) hx hb dX8_best_100 hl (by decide) rfl (fun ls hl => ?_)
              exact j102 f H locs ls x36 v26_l5 (by omega) (by omega) (by omega) hT hP hD hS (lv_sub hl [2, 0, 1, 3, 4, 5] rfl)
          · refine lv_if_eq (tgt := 102) hx hb dX8_best_69 (by decide) (fun _ => ?_) (fun c => absurd (by decide) c)
            exact j102 f H locs ls v26_l4 v26_l3 (by omega) (by omega) (by omega) hT hP hD hS (lv_sub hl [0, 1, 2, 3, 4, 5] rfl)
        · refine lv_if_eq (tgt := 102) hx hb dX8_best_52 (by decide) (fun _ => ?_) (fun c => absurd (by decide) c)
          exact j102 f H locs ls v26_l4 v26_l3 (by omega) (by omega) (by omega) hT hP hD hS (lv_sub hl [0, 1, 2, 3, 4, 5] rfl)
  refine lv_aload_n hx hb dX8_best_0 rfl (lv_at hl 0 rfl) ?_
  obtain ⟨t37, x39, x40, e42, h38, h41⟩ := (show okX8 ad tx 0 (f 0) from hT.1 0 (by decide))
  refine va_get (D := D) (cl := vwCl) (ci := 8) (v := .ref (ad t37)) (C := RX8) (T := TX8) (N := 13) hx hb hts in_X8_best_X8 hown hK hP 0 (wl_at (by decide) e42) rfl 1 (by decide) (hts (.fieldLink RX8 19 "EightReasons" "told" "LEightReasons$Suit;") (List.mem_of_getElem? (i := 1) rfl)) (fun _ h9 => h9) rfl dX8_best_1 ?_
  refine lv_iload_n hx hb dX8_best_4 rfl (lv_at hl 1 rfl) ?_
  obtain ⟨x43, x45, x46, x48, x49, e50, h44, h47⟩ := (ty_suit hT h38)
  refine tVI (As := [.int p1]) (rest := []) (i := t37) ⟨hx, hb, hml, hown, hts⟩ hK hE hP hD hS hA hAB (s_X5_isClaim_0 l B0 adK adV D cy ad fr0 tx rby rnx f hT t37 h38 p1 _) (cwV 1 hts gX8_best_X5_isClaim rfl rfl rfl (by decide +kernel) ⟨Nat.le_of_ble_eq_true rfl, Nat.le_of_ble_eq_true rfl⟩) (x_lt (x_suit0 h38)) 5 e50 rfl rfl hl.1 rfl (Nat.le_of_ble_eq_true rfl) dX8_best_5 ⟨Nat.le_of_ble_eq_true rfl, Nat.le_of_ble_eq_true rfl⟩ (fun r g H locs hw hP hD hS => ?_)
  obtain ⟨hrs, rfl⟩ := hw
  obtain ⟨x51, rfl⟩ : ∃ q, q = r := ⟨_, rfl⟩
  rcases hrs with ⟨rfl, h52, h53⟩ | rfl
  · refine lv_if_ne (tgt := 13) hx hb dX8_best_8 (by decide) (fun _ => ?_) (fun c => absurd c (by decide))
    refine lv_aload_n hx hb dX8_best_13 rfl (lv_at hl 0 rfl) ?_
    refine tVI (As := []) (rest := []) (i := 0) ⟨hx, hb, hml, hown, hts⟩ hK hE hP hD hS hA hAB (s_X8_standingNow_0 l B0 adK adV D cy ad fr0 tx rby rnx f hT _) (cwV 0 hts gX8_best_X8_standingNow rfl rfl rfl (by decide +kernel) ⟨Nat.le_of_ble_eq_true rfl, Nat.le_of_ble_eq_true rfl⟩) (by decide) 8 e42 rfl rfl hl.1 rfl (Nat.le_of_ble_eq_true rfl) dX8_best_14 ⟨Nat.le_of_ble_eq_true rfl, Nat.le_of_ble_eq_true rfl⟩ (fun r f H locs hw hP hD hS => ?_)
    obtain ⟨hrs, hT⟩ := hw
    obtain ⟨x54, rfl⟩ : ∃ q, q = r := ⟨_, rfl⟩
    have h55 := hrs
    refine lv_istore_n (lv' := [(2, .int x54), (0, .ref (ad 0)), (1, .int p1)]) hx hb dX8_best_17 rfl hl (by decide) rfl (fun ls hl => ?_)
    refine lv_iconst (v := (-1)) hx hb dX8_best_18 (by decide) ?_
    refine lv_istore_n (lv' := [(3, .int (-1)), (2, .int x54), (0, .ref (ad 0)), (1, .int p1)]) hx hb dX8_best_19 rfl hl (by decide) rfl (fun ls hl => ?_)
    refine lv_iconst (v := 0) hx hb dX8_best_20 (by decide) ?_
    refine lv_istore (lv' := [(4, .int 0), (3, .int (-1)), (2, .int x54), (0, .ref (ad 0)), (1, .int p1)]) hx hb dX8_best_21 hl (by decide) rfl (fun ls hl => ?_)
    refine lv_iconst (v := 0) hx hb dX8_best_23 (by decide) ?_
    refine lv_istore (lv' := [(5, .int 0), (4, .int 0), (3, .int (-1)), (2, .int x54), (0, .ref (ad 0)), (1, .int p1)]) hx hb dX8_best_24 hl (by decide) rfl (fun ls hl => ?_)
    have ttl_0 := tl_0
    have ttl_m1 := tl_m1
    exact j26 (Int.toNat (13 - (0 : Int32).toInt)) f H locs ls (0 : Int32) (0 : Int32) ((-1) : Int32) x54 (by omega) (by omega) (by omega) (by omega) hT hP hD hS (lv_sub hl [0, 1, 2, 3, 4, 5] rfl)
  · refine lv_if_ne (tgt := 13) hx hb dX8_best_8 (by decide) (fun c => absurd (by decide) c) (fun _ => ?_)
    refine lv_iconst (v := (-1)) hx hb dX8_best_11 (by decide) ?_
    have ttl_m1 := tl_m1
    exact tI hx hb hr hlk rfl hP hS ⟨(by omega), hT⟩ dX8_best_12
