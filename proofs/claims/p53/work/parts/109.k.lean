theorem dX2_age_0 : decode cX2_age 0 = .ok (.aload_n 0, 1) := by decide +kernel
theorem dX2_age_1 : decode cX2_age 1 = .ok (.iload_n 1, 1) := by decide +kernel
theorem dX2_age_2 : decode cX2_age 2 = .ok (.putfield 52, 3) := by decide +kernel
theorem dX2_age_5 : decode cX2_age 5 = .ok (.aload_n 0, 1) := by decide +kernel
theorem dX2_age_6 : decode cX2_age 6 = .ok (.dup, 1) := by decide +kernel
theorem dX2_age_7 : decode cX2_age 7 = .ok (.getfield 61, 3) := by decide +kernel
theorem dX2_age_10 : decode cX2_age 10 = .ok (.iconst 1, 1) := by decide +kernel
theorem dX2_age_11 : decode cX2_age 11 = .ok (.iadd, 1) := by decide +kernel
theorem dX2_age_12 : decode cX2_age 12 = .ok (.putfield 61, 3) := by decide +kernel
theorem dX2_age_15 : decode cX2_age 15 = .ok (.return_, 1) := by decide +kernel
set_option maxRecDepth 20000 in
theorem ggX2_need_X5_isClaim : GoodIn wsX2_need wsX5_isClaim := goodIn_r _ [8, 9, 10, 11, 12, 7, 13, 14, 15, 16, 17, 28, 29, 30, 31, 32, 33, 34, 35, 36, 37, 38, 39] rfl rfl
set_option maxRecDepth 20000 in
theorem gX2_need_X5_isClaim : GoodIn wsX2_need (wsV RX2 64 RX5 yX5_isClaim wsX5_isClaim) := goodIn_app (goodIn_of _ (by decide +kernel)) ggX2_need_X5_isClaim
theorem dX2_need_0 : decode cX2_need 0 = .ok (.aload_n 0, 1) := by decide +kernel
theorem dX2_need_1 : decode cX2_need 1 = .ok (.getfield 24, 3) := by decide +kernel
theorem dX2_need_4 : decode cX2_need 4 = .ok (.iload_n 1, 1) := by decide +kernel
theorem dX2_need_5 : decode cX2_need 5 = .ok (.invokevirtual 64, 3) := by decide +kernel
theorem dX2_need_8 : decode cX2_need 8 = .ok (.ifCond .eq 20, 3) := by decide +kernel
theorem dX2_need_11 : decode cX2_need 11 = .ok (.aload_n 0, 1) := by decide +kernel
theorem dX2_need_12 : decode cX2_need 12 = .ok (.getfield 31, 3) := by decide +kernel
theorem dX2_need_15 : decode cX2_need 15 = .ok (.iload_n 1, 1) := by decide +kernel
theorem dX2_need_16 : decode cX2_need 16 = .ok (.iload_n 2, 1) := by decide +kernel
theorem dX2_need_17 : decode cX2_need 17 = .ok (.iastore, 1) := by decide +kernel
theorem dX2_need_18 : decode cX2_need 18 = .ok (.aload_n 0, 1) := by decide +kernel
theorem dX2_need_19 : decode cX2_need 19 = .ok (.dup, 1) := by decide +kernel
theorem dX2_need_20 : decode cX2_need 20 = .ok (.getfield 61, 3) := by decide +kernel
theorem dX2_need_23 : decode cX2_need 23 = .ok (.iconst 1, 1) := by decide +kernel
theorem dX2_need_24 : decode cX2_need 24 = .ok (.iadd, 1) := by decide +kernel
theorem dX2_need_25 : decode cX2_need 25 = .ok (.putfield 61, 3) := by decide +kernel
theorem dX2_need_28 : decode cX2_need 28 = .ok (.return_, 1) := by decide +kernel
set_option maxRecDepth 20000 in
theorem ggX5_behind_X8_has : GoodIn wsX5_behind wsX8_has := goodIn_r _ [6] rfl rfl
set_option maxRecDepth 20000 in
theorem gX5_behind_X8_has_n63 : GoodIn wsX5_behind (wsX8_has) := ggX5_behind_X8_has
theorem dX5_behind_0 : decode cX5_behind 0 = .ok (.iconst 0, 1) := by decide +kernel
theorem dX5_behind_1 : decode cX5_behind 1 = .ok (.istore_n 3, 1) := by decide +kernel
theorem dX5_behind_2 : decode cX5_behind 2 = .ok (.iconst 0, 1) := by decide +kernel
theorem dX5_behind_3 : decode cX5_behind 3 = .ok (.istore 4, 2) := by decide +kernel
theorem dX5_behind_5 : decode cX5_behind 5 = .ok (.iload 4, 2) := by decide +kernel
theorem dX5_behind_7 : decode cX5_behind 7 = .ok (.aload_n 0, 1) := by decide +kernel
theorem dX5_behind_8 : decode cX5_behind 8 = .ok (.getfield 44, 3) := by decide +kernel
theorem dX5_behind_11 : decode cX5_behind 11 = .ok (.if_icmp .ge 44, 3) := by decide +kernel
theorem dX5_behind_14 : decode cX5_behind 14 = .ok (.iload_n 2, 1) := by decide +kernel
theorem dX5_behind_15 : decode cX5_behind 15 = .ok (.iload 4, 2) := by decide +kernel
theorem dX5_behind_17 : decode cX5_behind 17 = .ok (.invokestatic 63, 3) := by decide +kernel
theorem dX5_behind_20 : decode cX5_behind 20 = .ok (.ifCond .eq 29, 3) := by decide +kernel
theorem dX5_behind_23 : decode cX5_behind 23 = .ok (.iload_n 1, 1) := by decide +kernel
theorem dX5_behind_24 : decode cX5_behind 24 = .ok (.aload_n 0, 1) := by decide +kernel
theorem dX5_behind_25 : decode cX5_behind 25 = .ok (.getfield 24, 3) := by decide +kernel
theorem dX5_behind_28 : decode cX5_behind 28 = .ok (.iload 4, 2) := by decide +kernel
theorem dX5_behind_30 : decode cX5_behind 30 = .ok (.iaload, 1) := by decide +kernel
theorem dX5_behind_31 : decode cX5_behind 31 = .ok (.invokestatic 63, 3) := by decide +kernel
theorem dX5_behind_34 : decode cX5_behind 34 = .ok (.ifCond .eq 15, 3) := by decide +kernel
theorem dX5_behind_37 : decode cX5_behind 37 = .ok (.iload_n 3, 1) := by decide +kernel
theorem dX5_behind_38 : decode cX5_behind 38 = .ok (.iconst 1, 1) := by decide +kernel
theorem dX5_behind_39 : decode cX5_behind 39 = .ok (.aload_n 0, 1) := by decide +kernel
theorem dX5_behind_40 : decode cX5_behind 40 = .ok (.getfield 21, 3) := by decide +kernel
theorem dX5_behind_43 : decode cX5_behind 43 = .ok (.iload 4, 2) := by decide +kernel
theorem dX5_behind_45 : decode cX5_behind 45 = .ok (.iaload, 1) := by decide +kernel
theorem dX5_behind_46 : decode cX5_behind 46 = .ok (.ishl, 1) := by decide +kernel
theorem dX5_behind_47 : decode cX5_behind 47 = .ok (.ior, 1) := by decide +kernel
theorem dX5_behind_48 : decode cX5_behind 48 = .ok (.istore_n 3, 1) := by decide +kernel
theorem dX5_behind_49 : decode cX5_behind 49 = .ok (.iinc 4 1, 3) := by decide +kernel
theorem dX5_behind_52 : decode cX5_behind 52 = .ok (.goto (-47), 3) := by decide +kernel
theorem dX5_behind_55 : decode cX5_behind 55 = .ok (.iload_n 3, 1) := by decide +kernel
theorem dX5_behind_56 : decode cX5_behind 56 = .ok (.ireturn, 1) := by decide +kernel
set_option maxRecDepth 20000 in
theorem ggX8_with_X5_allStrands : GoodIn wsX8_with wsX5_allStrands := goodIn_r _ [7, 8, 145, 146, 147, 148, 149, 150, 151, 152, 153, 154, 155, 156] rfl rfl
set_option maxRecDepth 20000 in
theorem gX8_with_X5_allStrands : GoodIn wsX8_with (wsV RX8 241 RX5 yX5_allStrands wsX5_allStrands) := goodIn_app (goodIn_of _ (by decide +kernel)) ggX8_with_X5_allStrands
set_option maxRecDepth 20000 in
theorem ggX8_with_X8_look : GoodIn wsX8_with wsX8_look := goodIn_r _ [13, 2, 1, 14, 15, 16, 12, 17, 18, 19, 20, 21, 22, 23, 24, 25, 26, 27, 28, 29, 30, 31, 32, 33, 34, 35, 36, 37, 38, 39, 40, 41, 42, 43, 44, 45, 132, 133, 134, 135, 136, 137, 138, 139, 140, 141, 142, 143, 144, 157, 158, 159, 160, 161, 162, 163, 164, 165, 166, 167, 168, 169, 170, 145, 146, 147, 148, 149, 150, 151, 152, 153, 154, 155, 156, 171, 172, 173, 174, 175] rfl rfl
set_option maxRecDepth 20000 in
theorem gX8_with_X8_look : GoodIn wsX8_with (wsV RX8 148 RX8 yX8_look wsX8_look) := goodIn_app (goodIn_of _ (by decide +kernel)) ggX8_with_X8_look
set_option maxRecDepth 20000 in
theorem ggX8_with_X2_standing : GoodIn wsX8_with wsX2_standing := goodIn_r _ [49, 34, 31, 50, 51, 52, 29, 53, 54, 38, 55, 56, 12, 57, 58, 59, 60, 61, 62, 63, 64, 65, 66, 67, 68, 45, 44, 36, 69, 70, 71, 72, 73, 74, 75, 76, 77, 78, 79, 80, 81, 82, 83, 84, 85, 86, 87, 88, 89, 90, 91, 92, 93, 94, 95, 96, 97, 98, 99, 100, 101, 102, 103, 104, 105, 106, 107, 108, 109, 110, 111, 112, 113, 114, 115, 116, 117, 118, 119, 120, 121, 122, 123, 124, 6, 125, 126, 127, 128, 129, 130, 131, 161, 162, 163, 164, 165, 166, 167, 168, 169, 170, 145, 146, 147, 148, 149, 150, 151, 152, 153, 154, 155, 156, 176, 177, 178, 179, 180, 181] rfl rfl
set_option maxRecDepth 20000 in
theorem gX8_with_X2_standing : GoodIn wsX8_with (wsV RX8 231 RX2 yX2_standing wsX2_standing) := goodIn_app (goodIn_of _ (by decide +kernel)) ggX8_with_X2_standing
theorem dX8_with_0 : decode cX8_with 0 = .ok (.iload_n 1, 1) := by decide +kernel
theorem dX8_with_1 : decode cX8_with 1 = .ok (.aload_n 0, 1) := by decide +kernel
theorem dX8_with_2 : decode cX8_with 2 = .ok (.getfield 19, 3) := by decide +kernel
theorem dX8_with_5 : decode cX8_with 5 = .ok (.invokevirtual 241, 3) := by decide +kernel
theorem dX8_with_8 : decode cX8_with 8 = .ok (.iconst (-1), 1) := by decide +kernel
theorem dX8_with_9 : decode cX8_with 9 = .ok (.ixor, 1) := by decide +kernel
theorem dX8_with_10 : decode cX8_with 10 = .ok (.iand, 1) := by decide +kernel
theorem dX8_with_11 : decode cX8_with 11 = .ok (.ifCond .eq 5, 3) := by decide +kernel
theorem dX8_with_14 : decode cX8_with 14 = .ok (.iconst (-1), 1) := by decide +kernel
theorem dX8_with_15 : decode cX8_with 15 = .ok (.ireturn, 1) := by decide +kernel
theorem dX8_with_16 : decode cX8_with 16 = .ok (.aload_n 0, 1) := by decide +kernel
theorem dX8_with_17 : decode cX8_with 17 = .ok (.invokevirtual 148, 3) := by decide +kernel
theorem dX8_with_20 : decode cX8_with 20 = .ok (.aload_n 0, 1) := by decide +kernel
theorem dX8_with_21 : decode cX8_with 21 = .ok (.getfield 44, 3) := by decide +kernel
theorem dX8_with_24 : decode cX8_with 24 = .ok (.iload_n 1, 1) := by decide +kernel
theorem dX8_with_25 : decode cX8_with 25 = .ok (.invokevirtual 231, 3) := by decide +kernel
theorem dX8_with_28 : decode cX8_with 28 = .ok (.ireturn, 1) := by decide +kernel
set_option maxRecDepth 20000 in
theorem ggX8_law_X8_look : GoodIn wsX8_law wsX8_look := goodIn_r _ [9, 3, 1, 10, 11, 12, 8, 13, 14, 15, 16, 17, 18, 19, 20, 21, 22, 23, 24, 25, 26, 27, 28, 29, 30, 31, 32, 33, 34, 35, 36, 37, 38, 39, 40, 41, 148, 149, 150, 151, 152, 153, 154, 155, 156, 157, 158, 159, 160, 178, 179, 180, 181, 182, 183, 184, 185, 186, 187, 188, 189, 190, 191, 161, 162, 163, 164, 165, 166, 167, 168, 169, 170, 171, 172, 173, 174, 175, 176, 177] rfl rfl
set_option maxRecDepth 20000 in
theorem gX8_law_X8_look : GoodIn wsX8_law (wsV RX8 148 RX8 yX8_look wsX8_look) := goodIn_app (goodIn_of _ (by decide +kernel)) ggX8_law_X8_look
set_option maxRecDepth 20000 in
theorem ggX8_law_X5_isClaim : GoodIn wsX8_law wsX5_isClaim := goodIn_r _ [46, 47, 48, 49, 50, 45, 51, 52, 53, 8, 54, 161, 162, 163, 164, 165, 166, 167, 168, 169, 170, 171, 172] rfl rfl
set_option maxRecDepth 20000 in
theorem gX8_law_X5_isClaim : GoodIn wsX8_law (wsV RX8 244 RX5 yX5_isClaim wsX5_isClaim) := goodIn_app (goodIn_of _ (by decide +kernel)) ggX8_law_X5_isClaim
set_option maxRecDepth 20000 in
theorem ggX8_law_X2_need : GoodIn wsX8_law wsX2_need := goodIn_r _ [58, 27, 40, 41, 59, 43, 44, 45, 46, 47, 48, 49, 50, 51, 52, 53, 8, 54, 182, 183, 184, 185, 186, 187, 188, 189, 190, 191, 161, 162, 163, 164, 165, 166, 167, 168, 169, 170, 171, 172] rfl rfl
set_option maxRecDepth 20000 in
theorem gX8_law_X2_need : GoodIn wsX8_law (wsV RX8 247 RX2 yX2_need wsX2_need) := goodIn_app (goodIn_of _ (by decide +kernel)) ggX8_law_X2_need
set_option maxRecDepth 20000 in
theorem ggX8_law_X8_now : GoodIn wsX8_law wsX8_now := goodIn_r _ [13, 14, 15, 16, 17, 18, 19, 20, 21, 148, 149, 150, 151, 152, 153, 154, 155, 156, 157, 158, 159, 160, 178, 179, 180, 181] rfl rfl
set_option maxRecDepth 20000 in
theorem gX8_law_X8_now : GoodIn wsX8_law (wsV RX8 88 RX8 yX8_now wsX8_now) := goodIn_app (goodIn_of _ (by decide +kernel)) ggX8_law_X8_now
set_option maxRecDepth 20000 in
theorem ggX8_law_X8_claimsWith : GoodIn wsX8_law wsX8_claimsWith := goodIn_r _ [63, 3, 1, 64, 65, 66, 25, 67, 30, 27, 68, 69, 70, 71, 72, 34, 73, 53, 8, 54, 74, 75, 76, 77, 78, 79, 80, 81, 82, 83, 84, 41, 40, 32, 85, 86, 87, 88, 89, 90, 91, 92, 93, 94, 95, 96, 97, 98, 99, 100, 101, 102, 103, 104, 105, 106, 107, 108, 109, 110, 111, 112, 113, 114, 115, 116, 117, 118, 119, 120, 121, 122, 123, 124, 125, 126, 127, 128, 129, 130, 131, 132, 133, 134, 135, 136, 137, 138, 139, 140, 45, 141, 52, 47, 142, 143, 144, 145, 146, 147, 148, 149, 150, 151, 152, 153, 154, 155, 156, 157, 158, 159, 160, 182, 183, 184, 185, 186, 187, 188, 189, 190, 191, 161, 162, 163, 164, 165, 166, 167, 168, 169, 170, 171, 172, 192, 193, 194, 195, 196, 197] rfl rfl
set_option maxRecDepth 20000 in
theorem gX8_law_X8_claimsWith : GoodIn wsX8_law (wsV RX8 251 RX8 yX8_claimsWith wsX8_claimsWith) := goodIn_app (goodIn_of _ (by decide +kernel)) ggX8_law_X8_claimsWith
theorem dX8_law_0 : decode cX8_law 0 = .ok (.iload_n 1, 1) := by decide +kernel
theorem dX8_law_1 : decode cX8_law 1 = .ok (.ifCond .lt 9, 3) := by decide +kernel
theorem dX8_law_4 : decode cX8_law 4 = .ok (.iload_n 1, 1) := by decide +kernel
theorem dX8_law_5 : decode cX8_law 5 = .ok (.bipush 99, 2) := by decide +kernel
theorem dX8_law_7 : decode cX8_law 7 = .ok (.if_icmp .le 5, 3) := by decide +kernel
theorem dX8_law_10 : decode cX8_law 10 = .ok (.iconst (-1), 1) := by decide +kernel
theorem dX8_law_11 : decode cX8_law 11 = .ok (.ireturn, 1) := by decide +kernel
theorem dX8_law_12 : decode cX8_law 12 = .ok (.aload_n 0, 1) := by decide +kernel
theorem dX8_law_13 : decode cX8_law 13 = .ok (.invokevirtual 148, 3) := by decide +kernel
theorem dX8_law_16 : decode cX8_law 16 = .ok (.iconst 0, 1) := by decide +kernel
theorem dX8_law_17 : decode cX8_law 17 = .ok (.istore_n 2, 1) := by decide +kernel
theorem dX8_law_18 : decode cX8_law 18 = .ok (.iload_n 2, 1) := by decide +kernel
theorem dX8_law_19 : decode cX8_law 19 = .ok (.aload_n 0, 1) := by decide +kernel
theorem dX8_law_20 : decode cX8_law 20 = .ok (.getfield 19, 3) := by decide +kernel
theorem dX8_law_23 : decode cX8_law 23 = .ok (.getfield 105, 3) := by decide +kernel
theorem dX8_law_26 : decode cX8_law 26 = .ok (.if_icmp .ge 29, 3) := by decide +kernel
theorem dX8_law_29 : decode cX8_law 29 = .ok (.aload_n 0, 1) := by decide +kernel
theorem dX8_law_30 : decode cX8_law 30 = .ok (.getfield 19, 3) := by decide +kernel
theorem dX8_law_33 : decode cX8_law 33 = .ok (.iload_n 2, 1) := by decide +kernel
theorem dX8_law_34 : decode cX8_law 34 = .ok (.invokevirtual 244, 3) := by decide +kernel
theorem dX8_law_37 : decode cX8_law 37 = .ok (.ifCond .eq 12, 3) := by decide +kernel
theorem dX8_law_40 : decode cX8_law 40 = .ok (.aload_n 0, 1) := by decide +kernel
theorem dX8_law_41 : decode cX8_law 41 = .ok (.getfield 44, 3) := by decide +kernel
theorem dX8_law_44 : decode cX8_law 44 = .ok (.iload_n 2, 1) := by decide +kernel
theorem dX8_law_45 : decode cX8_law 45 = .ok (.iload_n 1, 1) := by decide +kernel
theorem dX8_law_46 : decode cX8_law 46 = .ok (.invokevirtual 247, 3) := by decide +kernel
theorem dX8_law_49 : decode cX8_law 49 = .ok (.iinc 2 1, 3) := by decide +kernel
theorem dX8_law_52 : decode cX8_law 52 = .ok (.goto (-34), 3) := by decide +kernel
theorem dX8_law_55 : decode cX8_law 55 = .ok (.aload_n 0, 1) := by decide +kernel
theorem dX8_law_56 : decode cX8_law 56 = .ok (.aload_n 0, 1) := by decide +kernel
theorem dX8_law_57 : decode cX8_law 57 = .ok (.invokevirtual 88, 3) := by decide +kernel
theorem dX8_law_60 : decode cX8_law 60 = .ok (.getfield 145, 3) := by decide +kernel
theorem dX8_law_63 : decode cX8_law 63 = .ok (.invokevirtual 251, 3) := by decide +kernel
theorem dX8_law_66 : decode cX8_law 66 = .ok (.ireturn, 1) := by decide +kernel
set_option maxRecDepth 20000 in
theorem ggX8_fall_X5_isClaim : GoodIn wsX8_fall wsX5_isClaim := goodIn_r _ [9, 10, 11, 12, 13, 8, 14, 15, 16, 17, 18, 164, 165, 166, 167, 168, 169, 170, 171, 172, 173, 174, 175] rfl rfl
set_option maxRecDepth 20000 in
theorem gX8_fall_X5_isClaim : GoodIn wsX8_fall (wsV RX8 244 RX5 yX5_isClaim wsX5_isClaim) := goodIn_app (goodIn_of _ (by decide +kernel)) ggX8_fall_X5_isClaim
set_option maxRecDepth 20000 in
theorem ggX8_fall_X8_look : GoodIn wsX8_fall wsX8_look := goodIn_r _ [22, 2, 1, 23, 24, 25, 17, 26, 27, 28, 29, 30, 31, 32, 33, 34, 35, 36, 37, 38, 39, 40, 41, 42, 43, 44, 45, 46, 47, 48, 49, 50, 51, 52, 53, 54, 146, 147, 148, 149, 150, 151, 152, 153, 154, 155, 156, 157, 158, 176, 177, 178, 179, 180, 181, 182, 183, 184, 185, 186, 187, 188, 189, 164, 165, 166, 167, 168, 169, 170, 171, 172, 173, 174, 175, 159, 160, 161, 162, 163] rfl rfl
set_option maxRecDepth 20000 in
theorem gX8_fall_X8_look : GoodIn wsX8_fall (wsV RX8 148 RX8 yX8_look wsX8_look) := goodIn_app (goodIn_of _ (by decide +kernel)) ggX8_fall_X8_look
set_option maxRecDepth 20000 in
theorem ggX8_fall_X8_now : GoodIn wsX8_fall wsX8_now := goodIn_r _ [26, 27, 28, 29, 30, 31, 32, 33, 34, 146, 147, 148, 149, 150, 151, 152, 153, 154, 155, 156, 157, 158, 176, 177, 178, 179] rfl rfl
set_option maxRecDepth 20000 in
theorem gX8_fall_X8_now : GoodIn wsX8_fall (wsV RX8 88 RX8 yX8_now wsX8_now) := goodIn_app (goodIn_of _ (by decide +kernel)) ggX8_fall_X8_now
set_option maxRecDepth 20000 in
theorem ggX8_fall_X2_age : GoodIn wsX8_fall wsX2_age := goodIn_r _ [58, 45, 54, 180, 181, 182, 183, 184, 185, 186, 187, 188, 189] rfl rfl
set_option maxRecDepth 20000 in
theorem gX8_fall_X2_age : GoodIn wsX8_fall (wsV RX8 257 RX2 yX2_age wsX2_age) := goodIn_app (goodIn_of _ (by decide +kernel)) ggX8_fall_X2_age
set_option maxRecDepth 20000 in
theorem ggX8_fall_X8_isUp : GoodIn wsX8_fall wsX8_isUp := goodIn_r _ [62, 2, 63, 64, 65, 38, 66, 43, 40, 67, 68, 69, 70, 71, 47, 72, 16, 17, 18, 73, 74, 75, 76, 77, 78, 79, 80, 81, 82, 83, 54, 53, 45, 84, 85, 86, 87, 88, 89, 90, 91, 92, 93, 94, 95, 96, 97, 98, 99, 100, 101, 102, 103, 104, 105, 106, 107, 108, 109, 110, 111, 112, 113, 114, 115, 116, 117, 118, 119, 120, 121, 122, 123, 124, 125, 126, 127, 128, 129, 130, 131, 132, 133, 134, 135, 136, 137, 138, 139, 8, 140, 15, 10, 141, 142, 143, 144, 145, 146, 147, 148, 149, 150, 151, 152, 153, 154, 155, 156, 157, 158, 180, 181, 182, 183, 184, 185, 186, 187, 188, 189, 164, 165, 166, 167, 168, 169, 170, 171, 172, 173, 174, 175, 190, 191, 192, 193, 194, 195] rfl rfl
set_option maxRecDepth 20000 in
theorem gX8_fall_X8_isUp : GoodIn wsX8_fall (wsV RX8 260 RX8 yX8_isUp wsX8_isUp) := goodIn_app (goodIn_of _ (by decide +kernel)) ggX8_fall_X8_isUp
theorem dX8_fall_0 : decode cX8_fall 0 = .ok (.aload_n 0, 1) := by decide +kernel
theorem dX8_fall_1 : decode cX8_fall 1 = .ok (.getfield 19, 3) := by decide +kernel
theorem dX8_fall_4 : decode cX8_fall 4 = .ok (.iload_n 1, 1) := by decide +kernel
theorem dX8_fall_5 : decode cX8_fall 5 = .ok (.invokevirtual 244, 3) := by decide +kernel
theorem dX8_fall_8 : decode cX8_fall 8 = .ok (.ifCond .ne 5, 3) := by decide +kernel
theorem dX8_fall_11 : decode cX8_fall 11 = .ok (.iconst (-1), 1) := by decide +kernel
theorem dX8_fall_12 : decode cX8_fall 12 = .ok (.ireturn, 1) := by decide +kernel
theorem dX8_fall_13 : decode cX8_fall 13 = .ok (.aload_n 0, 1) := by decide +kernel
theorem dX8_fall_14 : decode cX8_fall 14 = .ok (.invokevirtual 148, 3) := by decide +kernel
theorem dX8_fall_17 : decode cX8_fall 17 = .ok (.iconst 0, 1) := by decide +kernel
theorem dX8_fall_18 : decode cX8_fall 18 = .ok (.istore_n 2, 1) := by decide +kernel
theorem dX8_fall_19 : decode cX8_fall 19 = .ok (.iload_n 2, 1) := by decide +kernel
theorem dX8_fall_20 : decode cX8_fall 20 = .ok (.bipush 60, 2) := by decide +kernel
theorem dX8_fall_22 : decode cX8_fall 22 = .ok (.if_icmp .gt 42, 3) := by decide +kernel
theorem dX8_fall_25 : decode cX8_fall 25 = .ok (.aload_n 0, 1) := by decide +kernel
theorem dX8_fall_26 : decode cX8_fall 26 = .ok (.getfield 44, 3) := by decide +kernel
theorem dX8_fall_29 : decode cX8_fall 29 = .ok (.aload_n 0, 1) := by decide +kernel
theorem dX8_fall_30 : decode cX8_fall 30 = .ok (.invokevirtual 88, 3) := by decide +kernel
theorem dX8_fall_33 : decode cX8_fall 33 = .ok (.getfield 160, 3) := by decide +kernel
theorem dX8_fall_36 : decode cX8_fall 36 = .ok (.iload_n 2, 1) := by decide +kernel
theorem dX8_fall_37 : decode cX8_fall 37 = .ok (.iadd, 1) := by decide +kernel
theorem dX8_fall_38 : decode cX8_fall 38 = .ok (.invokevirtual 257, 3) := by decide +kernel
theorem dX8_fall_41 : decode cX8_fall 41 = .ok (.aload_n 0, 1) := by decide +kernel
theorem dX8_fall_42 : decode cX8_fall 42 = .ok (.iload_n 1, 1) := by decide +kernel
theorem dX8_fall_43 : decode cX8_fall 43 = .ok (.aload_n 0, 1) := by decide +kernel
theorem dX8_fall_44 : decode cX8_fall 44 = .ok (.invokevirtual 88, 3) := by decide +kernel
theorem dX8_fall_47 : decode cX8_fall 47 = .ok (.getfield 145, 3) := by decide +kernel
theorem dX8_fall_50 : decode cX8_fall 50 = .ok (.invokevirtual 260, 3) := by decide +kernel
theorem dX8_fall_53 : decode cX8_fall 53 = .ok (.ifCond .ne 5, 3) := by decide +kernel
theorem dX8_fall_56 : decode cX8_fall 56 = .ok (.iload_n 2, 1) := by decide +kernel
theorem dX8_fall_57 : decode cX8_fall 57 = .ok (.ireturn, 1) := by decide +kernel
theorem dX8_fall_58 : decode cX8_fall 58 = .ok (.iinc 2 1, 3) := by decide +kernel
theorem dX8_fall_61 : decode cX8_fall 61 = .ok (.goto (-42), 3) := by decide +kernel
theorem dX8_fall_64 : decode cX8_fall 64 = .ok (.iconst (-1), 1) := by decide +kernel
theorem dX8_fall_65 : decode cX8_fall 65 = .ok (.ireturn, 1) := by decide +kernel
set_option maxRecDepth 20000 in
theorem ggX8_worth_X5_isClaim : GoodIn wsX8_worth wsX5_isClaim := goodIn_r _ [8, 9, 10, 11, 12, 7, 13, 14, 15, 16, 17, 164, 165, 166, 167, 168, 169, 170, 171, 172, 173, 174, 175] rfl rfl
set_option maxRecDepth 20000 in
theorem gX8_worth_X5_isClaim : GoodIn wsX8_worth (wsV RX8 244 RX5 yX5_isClaim wsX5_isClaim) := goodIn_app (goodIn_of _ (by decide +kernel)) ggX8_worth_X5_isClaim
set_option maxRecDepth 20000 in
theorem ggX8_worth_X8_look : GoodIn wsX8_worth wsX8_look := goodIn_r _ [21, 2, 1, 22, 23, 24, 16, 25, 26, 27, 28, 29, 30, 31, 32, 33, 34, 35, 36, 37, 38, 39, 40, 41, 42, 43, 44, 45, 46, 47, 48, 49, 50, 51, 52, 53, 146, 147, 148, 149, 150, 151, 152, 153, 154, 155, 156, 157, 158, 176, 177, 178, 179, 180, 181, 182, 183, 184, 185, 186, 187, 188, 189, 164, 165, 166, 167, 168, 169, 170, 171, 172, 173, 174, 175, 159, 160, 161, 162, 163] rfl rfl
set_option maxRecDepth 20000 in
theorem gX8_worth_X8_look : GoodIn wsX8_worth (wsV RX8 148 RX8 yX8_look wsX8_look) := goodIn_app (goodIn_of _ (by decide +kernel)) ggX8_worth_X8_look
set_option maxRecDepth 20000 in
theorem ggX8_worth_X2_need : GoodIn wsX8_worth wsX2_need := goodIn_r _ [57, 39, 52, 53, 58, 5, 6, 7, 8, 9, 10, 11, 12, 13, 14, 15, 16, 17, 180, 181, 182, 183, 184, 185, 186, 187, 188, 189, 164, 165, 166, 167, 168, 169, 170, 171, 172, 173, 174, 175] rfl rfl
set_option maxRecDepth 20000 in
theorem gX8_worth_X2_need : GoodIn wsX8_worth (wsV RX8 247 RX2 yX2_need wsX2_need) := goodIn_app (goodIn_of _ (by decide +kernel)) ggX8_worth_X2_need
set_option maxRecDepth 20000 in
theorem ggX8_worth_X8_now : GoodIn wsX8_worth wsX8_now := goodIn_r _ [25, 26, 27, 28, 29, 30, 31, 32, 33, 146, 147, 148, 149, 150, 151, 152, 153, 154, 155, 156, 157, 158, 176, 177, 178, 179] rfl rfl
set_option maxRecDepth 20000 in
theorem gX8_worth_X8_now : GoodIn wsX8_worth (wsV RX8 88 RX8 yX8_now wsX8_now) := goodIn_app (goodIn_of _ (by decide +kernel)) ggX8_worth_X8_now
set_option maxRecDepth 20000 in
theorem ggX8_worth_X8_isUp : GoodIn wsX8_worth wsX8_isUp := goodIn_r _ [62, 2, 63, 64, 65, 37, 66, 42, 39, 67, 68, 69, 70, 71, 46, 72, 15, 16, 17, 73, 74, 75, 76, 77, 78, 79, 80, 81, 82, 83, 53, 52, 44, 84, 85, 86, 87, 88, 89, 90, 91, 92, 93, 94, 95, 96, 97, 98, 99, 100, 101, 102, 103, 104, 105, 106, 107, 108, 109, 110, 111, 112, 113, 114, 115, 116, 117, 118, 119, 120, 121, 122, 123, 124, 125, 126, 127, 128, 129, 130, 131, 132, 133, 134, 135, 136, 137, 138, 139, 7, 140, 14, 9, 141, 142, 143, 144, 145, 146, 147, 148, 149, 150, 151, 152, 153, 154, 155, 156, 157, 158, 180, 181, 182, 183, 184, 185, 186, 187, 188, 189, 164, 165, 166, 167, 168, 169, 170, 171, 172, 173, 174, 175, 190, 191, 192, 193, 194, 195] rfl rfl
set_option maxRecDepth 20000 in
theorem gX8_worth_X8_isUp : GoodIn wsX8_worth (wsV RX8 260 RX8 yX8_isUp wsX8_isUp) := goodIn_app (goodIn_of _ (by decide +kernel)) ggX8_worth_X8_isUp
theorem dX8_worth_0 : decode cX8_worth 0 = .ok (.aload_n 0, 1) := by decide +kernel
theorem dX8_worth_1 : decode cX8_worth 1 = .ok (.getfield 19, 3) := by decide +kernel
theorem dX8_worth_4 : decode cX8_worth 4 = .ok (.iload_n 1, 1) := by decide +kernel
theorem dX8_worth_5 : decode cX8_worth 5 = .ok (.invokevirtual 244, 3) := by decide +kernel
theorem dX8_worth_8 : decode cX8_worth 8 = .ok (.ifCond .ne 5, 3) := by decide +kernel
theorem dX8_worth_11 : decode cX8_worth 11 = .ok (.iconst (-1), 1) := by decide +kernel
theorem dX8_worth_12 : decode cX8_worth 12 = .ok (.ireturn, 1) := by decide +kernel
theorem dX8_worth_13 : decode cX8_worth 13 = .ok (.aload_n 0, 1) := by decide +kernel
theorem dX8_worth_14 : decode cX8_worth 14 = .ok (.invokevirtual 148, 3) := by decide +kernel
theorem dX8_worth_17 : decode cX8_worth 17 = .ok (.bipush 99, 2) := by decide +kernel
theorem dX8_worth_19 : decode cX8_worth 19 = .ok (.istore_n 2, 1) := by decide +kernel
theorem dX8_worth_20 : decode cX8_worth 20 = .ok (.iload_n 2, 1) := by decide +kernel
theorem dX8_worth_21 : decode cX8_worth 21 = .ok (.ifCond .lt 35, 3) := by decide +kernel
theorem dX8_worth_24 : decode cX8_worth 24 = .ok (.aload_n 0, 1) := by decide +kernel
theorem dX8_worth_25 : decode cX8_worth 25 = .ok (.getfield 44, 3) := by decide +kernel
theorem dX8_worth_28 : decode cX8_worth 28 = .ok (.iload_n 1, 1) := by decide +kernel
theorem dX8_worth_29 : decode cX8_worth 29 = .ok (.iload_n 2, 1) := by decide +kernel
theorem dX8_worth_30 : decode cX8_worth 30 = .ok (.invokevirtual 247, 3) := by decide +kernel
theorem dX8_worth_33 : decode cX8_worth 33 = .ok (.aload_n 0, 1) := by decide +kernel
theorem dX8_worth_34 : decode cX8_worth 34 = .ok (.iload_n 1, 1) := by decide +kernel
theorem dX8_worth_35 : decode cX8_worth 35 = .ok (.aload_n 0, 1) := by decide +kernel
theorem dX8_worth_36 : decode cX8_worth 36 = .ok (.invokevirtual 88, 3) := by decide +kernel
theorem dX8_worth_39 : decode cX8_worth 39 = .ok (.getfield 145, 3) := by decide +kernel
theorem dX8_worth_42 : decode cX8_worth 42 = .ok (.invokevirtual 260, 3) := by decide +kernel
theorem dX8_worth_45 : decode cX8_worth 45 = .ok (.ifCond .eq 5, 3) := by decide +kernel
theorem dX8_worth_48 : decode cX8_worth 48 = .ok (.iload_n 2, 1) := by decide +kernel
theorem dX8_worth_49 : decode cX8_worth 49 = .ok (.ireturn, 1) := by decide +kernel
theorem dX8_worth_50 : decode cX8_worth 50 = .ok (.iinc 2 (-1), 3) := by decide +kernel
theorem dX8_worth_53 : decode cX8_worth 53 = .ok (.goto (-33), 3) := by decide +kernel
theorem dX8_worth_56 : decode cX8_worth 56 = .ok (.iconst (-1), 1) := by decide +kernel
theorem dX8_worth_57 : decode cX8_worth 57 = .ok (.ireturn, 1) := by decide +kernel
set_option maxRecDepth 20000 in
theorem ggX8_spare_X8_standingNow : GoodIn wsX8_spare wsX8_standingNow := goodIn_r _ [9, 4, 1, 10, 11, 12, 8, 13, 2, 14, 15, 16, 17, 18, 19, 20, 21, 22, 23, 24, 25, 26, 27, 28, 29, 30, 31, 32, 33, 34, 35, 36, 37, 38, 39, 40, 41, 42, 43, 44, 45, 46, 47, 48, 49, 50, 51, 52, 53, 54, 55, 56, 57, 58, 59, 60, 61, 62, 63, 64, 65, 66, 67, 68, 69, 70, 71, 72, 73, 74, 75, 76, 77, 78, 79, 80, 81, 82, 83, 84, 85, 86, 87, 88, 89, 90, 91, 92, 93, 94, 95, 96, 97, 98, 99, 100, 101, 102, 103, 104, 105, 106, 107, 108, 109, 110, 111, 112, 113, 114, 115, 116, 117, 118, 119, 120, 121, 122, 123, 124, 125, 126, 127, 128, 129, 130, 131, 132, 139, 140, 141, 142, 143, 144, 145, 146, 147, 148, 149, 150, 151, 134, 135, 136, 137, 138, 164, 165, 166, 167, 168, 169, 170, 171, 172, 173, 174, 175, 176, 177, 152, 153, 154, 155, 156, 157, 158, 159, 160, 161, 162, 163, 178, 179, 180, 181, 182, 183] rfl rfl
set_option maxRecDepth 20000 in
theorem gX8_spare_X8_standingNow : GoodIn wsX8_spare (wsV RX8 224 RX8 yX8_standingNow wsX8_standingNow) := goodIn_app (goodIn_of _ (by decide +kernel)) ggX8_spare_X8_standingNow
set_option maxRecDepth 20000 in
theorem ggX8_spare_X8_now : GoodIn wsX8_spare wsX8_now := goodIn_r _ [17, 18, 19, 20, 21, 22, 23, 24, 25, 139, 140, 141, 142, 143, 144, 145, 146, 147, 148, 149, 150, 151, 164, 165, 166, 167] rfl rfl
set_option maxRecDepth 20000 in
theorem gX8_spare_X8_now : GoodIn wsX8_spare (wsV RX8 88 RX8 yX8_now wsX8_now) := goodIn_app (goodIn_of _ (by decide +kernel)) ggX8_spare_X8_now
set_option maxRecDepth 20000 in
theorem ggX8_spare_X8_has : GoodIn wsX8_spare wsX8_has := goodIn_r _ [57] rfl rfl
set_option maxRecDepth 20000 in
theorem gX8_spare_X8_has : GoodIn wsX8_spare (va_wsS RX8 220 yX8_has wsX8_has) := goodIn_app (goodIn_of _ (by decide +kernel)) ggX8_spare_X8_has
set_option maxRecDepth 20000 in
theorem ggX8_spare_X2_standing : GoodIn wsX8_spare wsX2_standing := goodIn_r _ [49, 34, 31, 50, 51, 52, 29, 53, 54, 38, 55, 56, 8, 57, 58, 59, 60, 61, 62, 63, 64, 65, 66, 67, 68, 45, 44, 36, 69, 70, 71, 72, 73, 74, 75, 76, 77, 78, 79, 80, 81, 82, 83, 84, 85, 86, 87, 88, 89, 90, 91, 92, 93, 94, 95, 96, 97, 98, 99, 100, 101, 102, 103, 104, 105, 106, 107, 108, 109, 110, 111, 112, 113, 114, 115, 116, 117, 118, 119, 120, 121, 122, 123, 124, 125, 126, 127, 128, 129, 130, 131, 132, 168, 169, 170, 171, 172, 173, 174, 175, 176, 177, 152, 153, 154, 155, 156, 157, 158, 159, 160, 161, 162, 163, 178, 179, 180, 181, 182, 183] rfl rfl
set_option maxRecDepth 20000 in
theorem gX8_spare_X2_standing : GoodIn wsX8_spare (wsV RX8 231 RX2 yX2_standing wsX2_standing) := goodIn_app (goodIn_of _ (by decide +kernel)) ggX8_spare_X2_standing
theorem dX8_spare_0 : decode cX8_spare 0 = .ok (.aload_n 0, 1) := by decide +kernel
theorem dX8_spare_1 : decode cX8_spare 1 = .ok (.invokevirtual 224, 3) := by decide +kernel
theorem dX8_spare_4 : decode cX8_spare 4 = .ok (.istore_n 1, 1) := by decide +kernel
theorem dX8_spare_5 : decode cX8_spare 5 = .ok (.aload_n 0, 1) := by decide +kernel
theorem dX8_spare_6 : decode cX8_spare 6 = .ok (.invokevirtual 88, 3) := by decide +kernel
theorem dX8_spare_9 : decode cX8_spare 9 = .ok (.getfield 145, 3) := by decide +kernel
theorem dX8_spare_12 : decode cX8_spare 12 = .ok (.istore_n 2, 1) := by decide +kernel
theorem dX8_spare_13 : decode cX8_spare 13 = .ok (.iconst 0, 1) := by decide +kernel
theorem dX8_spare_14 : decode cX8_spare 14 = .ok (.istore_n 3, 1) := by decide +kernel
theorem dX8_spare_15 : decode cX8_spare 15 = .ok (.iconst 0, 1) := by decide +kernel
theorem dX8_spare_16 : decode cX8_spare 16 = .ok (.istore 4, 2) := by decide +kernel
theorem dX8_spare_18 : decode cX8_spare 18 = .ok (.iload 4, 2) := by decide +kernel
theorem dX8_spare_20 : decode cX8_spare 20 = .ok (.aload_n 0, 1) := by decide +kernel
theorem dX8_spare_21 : decode cX8_spare 21 = .ok (.getfield 19, 3) := by decide +kernel
theorem dX8_spare_24 : decode cX8_spare 24 = .ok (.getfield 157, 3) := by decide +kernel
theorem dX8_spare_27 : decode cX8_spare 27 = .ok (.if_icmp .ge 42, 3) := by decide +kernel
theorem dX8_spare_30 : decode cX8_spare 30 = .ok (.iload_n 2, 1) := by decide +kernel
theorem dX8_spare_31 : decode cX8_spare 31 = .ok (.iload 4, 2) := by decide +kernel
theorem dX8_spare_33 : decode cX8_spare 33 = .ok (.invokestatic 220, 3) := by decide +kernel
theorem dX8_spare_36 : decode cX8_spare 36 = .ok (.ifCond .eq 27, 3) := by decide +kernel
theorem dX8_spare_39 : decode cX8_spare 39 = .ok (.aload_n 0, 1) := by decide +kernel
theorem dX8_spare_40 : decode cX8_spare 40 = .ok (.getfield 44, 3) := by decide +kernel
theorem dX8_spare_43 : decode cX8_spare 43 = .ok (.iload_n 2, 1) := by decide +kernel
theorem dX8_spare_44 : decode cX8_spare 44 = .ok (.iconst 1, 1) := by decide +kernel
theorem dX8_spare_45 : decode cX8_spare 45 = .ok (.iload 4, 2) := by decide +kernel
theorem dX8_spare_47 : decode cX8_spare 47 = .ok (.ishl, 1) := by decide +kernel
theorem dX8_spare_48 : decode cX8_spare 48 = .ok (.ixor, 1) := by decide +kernel
theorem dX8_spare_49 : decode cX8_spare 49 = .ok (.invokevirtual 231, 3) := by decide +kernel
theorem dX8_spare_52 : decode cX8_spare 52 = .ok (.iload_n 1, 1) := by decide +kernel
theorem dX8_spare_53 : decode cX8_spare 53 = .ok (.if_icmp .ne 10, 3) := by decide +kernel
theorem dX8_spare_56 : decode cX8_spare 56 = .ok (.iload_n 3, 1) := by decide +kernel
theorem dX8_spare_57 : decode cX8_spare 57 = .ok (.iconst 1, 1) := by decide +kernel
theorem dX8_spare_58 : decode cX8_spare 58 = .ok (.iload 4, 2) := by decide +kernel
theorem dX8_spare_60 : decode cX8_spare 60 = .ok (.ishl, 1) := by decide +kernel
theorem dX8_spare_61 : decode cX8_spare 61 = .ok (.ior, 1) := by decide +kernel
theorem dX8_spare_62 : decode cX8_spare 62 = .ok (.istore_n 3, 1) := by decide +kernel
theorem dX8_spare_63 : decode cX8_spare 63 = .ok (.iinc 4 1, 3) := by decide +kernel
theorem dX8_spare_66 : decode cX8_spare 66 = .ok (.goto (-48), 3) := by decide +kernel
theorem dX8_spare_69 : decode cX8_spare 69 = .ok (.iload_n 3, 1) := by decide +kernel
theorem dX8_spare_70 : decode cX8_spare 70 = .ok (.ireturn, 1) := by decide +kernel
set_option maxRecDepth 20000 in
theorem ggX8_keystone_X8_isZeroOrOne : GoodIn wsX8_keystone wsX8_isZeroOrOne := goodIn_r _ [6] rfl rfl
set_option maxRecDepth 20000 in
theorem gX8_keystone_X8_isZeroOrOne : GoodIn wsX8_keystone (va_wsS RX8 234 yX8_isZeroOrOne wsX8_isZeroOrOne) := goodIn_app (goodIn_of _ (by decide +kernel)) ggX8_keystone_X8_isZeroOrOne
set_option maxRecDepth 20000 in
theorem ggX8_keystone_X8_look : GoodIn wsX8_keystone wsX8_look := goodIn_r _ [10, 11, 1, 12, 13, 14, 5, 15, 16, 17, 18, 19, 20, 21, 22, 23, 24, 25, 26, 27, 28, 29, 30, 31, 32, 33, 34, 35, 36, 37, 38, 39, 40, 41, 42, 43, 153, 154, 155, 156, 157, 158, 159, 160, 161, 162, 163, 164, 165, 178, 179, 180, 181, 182, 183, 184, 185, 186, 187, 188, 189, 190, 191, 166, 167, 168, 169, 170, 171, 172, 173, 174, 175, 176, 177, 192, 193, 194, 195, 196] rfl rfl
set_option maxRecDepth 20000 in
theorem gX8_keystone_X8_look : GoodIn wsX8_keystone (wsV RX8 148 RX8 yX8_look wsX8_look) := goodIn_app (goodIn_of _ (by decide +kernel)) ggX8_keystone_X8_look
set_option maxRecDepth 20000 in
theorem ggX8_keystone_X8_isProved : GoodIn wsX8_keystone wsX8_isProved := goodIn_r _ [47, 1, 48, 49, 50, 51, 52, 53, 54, 55, 56, 57, 58, 59, 60, 5, 61, 12, 13, 14, 15, 16, 17, 18, 19, 20, 21, 22, 23, 62, 153, 154, 155, 156, 157, 158, 159, 160, 161, 162, 163, 164, 165, 192, 193, 194, 195, 196, 166, 167, 168, 169, 170, 171, 172, 173, 174, 175, 176, 177, 178, 179, 180, 181] rfl rfl
set_option maxRecDepth 20000 in
theorem gX8_keystone_X8_isProved : GoodIn wsX8_keystone (wsV RX8 200 RX8 yX8_isProved wsX8_isProved) := goodIn_app (goodIn_of _ (by decide +kernel)) ggX8_keystone_X8_isProved
set_option maxRecDepth 20000 in
theorem ggX8_keystone_X8_standingWithout : GoodIn wsX8_keystone wsX8_standingWithout := goodIn_r _ [66, 11, 67, 68, 12, 13, 14, 5, 15, 16, 17, 18, 19, 20, 21, 22, 23, 69, 70, 71, 27, 72, 32, 29, 73, 74, 75, 76, 77, 36, 78, 60, 61, 79, 80, 81, 82, 83, 84, 85, 86, 87, 88, 89, 43, 42, 34, 90, 91, 92, 93, 94, 95, 96, 97, 98, 99, 100, 101, 102, 103, 104, 105, 106, 107, 108, 109, 110, 111, 112, 113, 114, 115, 116, 117, 118, 119, 120, 121, 122, 123, 124, 125, 126, 127, 128, 129, 130, 131, 132, 133, 134, 135, 136, 137, 138, 139, 140, 141, 142, 143, 144, 145, 52, 146, 59, 54, 147, 148, 149, 150, 153, 154, 155, 156, 157, 158, 159, 160, 161, 162, 163, 164, 165, 182, 183, 184, 185, 186, 187, 188, 189, 190, 191, 192, 193, 194, 195, 196, 178, 179, 180, 181, 166, 167, 168, 169, 170, 171, 172, 173, 174, 175, 176, 177, 197, 198, 199, 200, 201, 202] rfl rfl
set_option maxRecDepth 20000 in
theorem gX8_keystone_X8_standingWithout : GoodIn wsX8_keystone (wsV RX8 296 RX8 yX8_standingWithout wsX8_standingWithout) := goodIn_app (goodIn_of _ (by decide +kernel)) ggX8_keystone_X8_standingWithout
set_option maxRecDepth 20000 in
theorem ggX8_keystone_X5_claims : GoodIn wsX8_keystone wsX5_claims := goodIn_r _ [146, 59, 54, 166, 167, 168, 169, 170, 171, 172, 173, 174, 175, 176, 177] rfl rfl
set_option maxRecDepth 20000 in
theorem gX8_keystone_X5_claims : GoodIn wsX8_keystone (wsV RX8 290 RX5 yX5_claims wsX5_claims) := goodIn_app (goodIn_of _ (by decide +kernel)) ggX8_keystone_X5_claims
set_option maxRecDepth 20000 in
theorem ggX8_keystone_J6_bitCount_0f7a4 : GoodIn wsX8_keystone wsJ6_bitCount_0f7a4 := goodIn_r _ [100, 101, 102, 103] rfl rfl
set_option maxRecDepth 20000 in
theorem gX8_keystone_J6_bitCount_0f7a4 : GoodIn wsX8_keystone (va_wsS RX8 274 yJ6_bitCount_0f7a4 wsJ6_bitCount_0f7a4) := goodIn_app (goodIn_of _ (by decide +kernel)) ggX8_keystone_J6_bitCount_0f7a4
theorem dX8_keystone_0 : decode cX8_keystone 0 = .ok (.iload_n 1, 1) := by decide +kernel
theorem dX8_keystone_1 : decode cX8_keystone 1 = .ok (.invokestatic 234, 3) := by decide +kernel
theorem dX8_keystone_4 : decode cX8_keystone 4 = .ok (.ifCond .ne 5, 3) := by decide +kernel
theorem dX8_keystone_7 : decode cX8_keystone 7 = .ok (.iconst (-1), 1) := by decide +kernel
theorem dX8_keystone_8 : decode cX8_keystone 8 = .ok (.ireturn, 1) := by decide +kernel
theorem dX8_keystone_9 : decode cX8_keystone 9 = .ok (.aload_n 0, 1) := by decide +kernel
theorem dX8_keystone_10 : decode cX8_keystone 10 = .ok (.invokevirtual 148, 3) := by decide +kernel
theorem dX8_keystone_13 : decode cX8_keystone 13 = .ok (.iconst (-1), 1) := by decide +kernel
theorem dX8_keystone_14 : decode cX8_keystone 14 = .ok (.istore_n 2, 1) := by decide +kernel
theorem dX8_keystone_15 : decode cX8_keystone 15 = .ok (.bipush 11, 2) := by decide +kernel
theorem dX8_keystone_17 : decode cX8_keystone 17 = .ok (.istore_n 3, 1) := by decide +kernel
theorem dX8_keystone_18 : decode cX8_keystone 18 = .ok (.iconst 0, 1) := by decide +kernel
theorem dX8_keystone_19 : decode cX8_keystone 19 = .ok (.istore 4, 2) := by decide +kernel
theorem dX8_keystone_21 : decode cX8_keystone 21 = .ok (.iload 4, 2) := by decide +kernel
theorem dX8_keystone_23 : decode cX8_keystone 23 = .ok (.aload_n 0, 1) := by decide +kernel
theorem dX8_keystone_24 : decode cX8_keystone 24 = .ok (.getfield 19, 3) := by decide +kernel
theorem dX8_keystone_27 : decode cX8_keystone 27 = .ok (.getfield 105, 3) := by decide +kernel
theorem dX8_keystone_30 : decode cX8_keystone 30 = .ok (.if_icmp .ge 49, 3) := by decide +kernel
theorem dX8_keystone_33 : decode cX8_keystone 33 = .ok (.aload_n 0, 1) := by decide +kernel
theorem dX8_keystone_34 : decode cX8_keystone 34 = .ok (.iload 4, 2) := by decide +kernel
theorem dX8_keystone_36 : decode cX8_keystone 36 = .ok (.invokevirtual 200, 3) := by decide +kernel
theorem dX8_keystone_39 : decode cX8_keystone 39 = .ok (.ifCond .eq 34, 3) := by decide +kernel
theorem dX8_keystone_42 : decode cX8_keystone 42 = .ok (.aload_n 0, 1) := by decide +kernel
theorem dX8_keystone_43 : decode cX8_keystone 43 = .ok (.iload 4, 2) := by decide +kernel
theorem dX8_keystone_45 : decode cX8_keystone 45 = .ok (.invokevirtual 296, 3) := by decide +kernel
theorem dX8_keystone_48 : decode cX8_keystone 48 = .ok (.aload_n 0, 1) := by decide +kernel
theorem dX8_keystone_49 : decode cX8_keystone 49 = .ok (.getfield 19, 3) := by decide +kernel
theorem dX8_keystone_52 : decode cX8_keystone 52 = .ok (.invokevirtual 290, 3) := by decide +kernel
theorem dX8_keystone_55 : decode cX8_keystone 55 = .ok (.iand, 1) := by decide +kernel
theorem dX8_keystone_56 : decode cX8_keystone 56 = .ok (.invokestatic 274, 3) := by decide +kernel
theorem dX8_keystone_59 : decode cX8_keystone 59 = .ok (.istore 5, 2) := by decide +kernel
theorem dX8_keystone_61 : decode cX8_keystone 61 = .ok (.iload 5, 2) := by decide +kernel
theorem dX8_keystone_63 : decode cX8_keystone 63 = .ok (.iload_n 3, 1) := by decide +kernel
theorem dX8_keystone_64 : decode cX8_keystone 64 = .ok (.if_icmp .ge 9, 3) := by decide +kernel
theorem dX8_keystone_67 : decode cX8_keystone 67 = .ok (.iload 4, 2) := by decide +kernel
theorem dX8_keystone_69 : decode cX8_keystone 69 = .ok (.istore_n 2, 1) := by decide +kernel
theorem dX8_keystone_70 : decode cX8_keystone 70 = .ok (.iload 5, 2) := by decide +kernel
theorem dX8_keystone_72 : decode cX8_keystone 72 = .ok (.istore_n 3, 1) := by decide +kernel
theorem dX8_keystone_73 : decode cX8_keystone 73 = .ok (.iinc 4 1, 3) := by decide +kernel
theorem dX8_keystone_76 : decode cX8_keystone 76 = .ok (.goto (-55), 3) := by decide +kernel
theorem dX8_keystone_79 : decode cX8_keystone 79 = .ok (.iload_n 1, 1) := by decide +kernel
theorem dX8_keystone_80 : decode cX8_keystone 80 = .ok (.iconst 1, 1) := by decide +kernel
theorem dX8_keystone_81 : decode cX8_keystone 81 = .ok (.if_icmp .ne 12, 3) := by decide +kernel
theorem dX8_keystone_84 : decode cX8_keystone 84 = .ok (.iload_n 2, 1) := by decide +kernel
theorem dX8_keystone_85 : decode cX8_keystone 85 = .ok (.iconst (-1), 1) := by decide +kernel
theorem dX8_keystone_86 : decode cX8_keystone 86 = .ok (.if_icmp .eq 7, 3) := by decide +kernel
theorem dX8_keystone_89 : decode cX8_keystone 89 = .ok (.iload_n 3, 1) := by decide +kernel
theorem dX8_keystone_90 : decode cX8_keystone 90 = .ok (.goto 4, 3) := by decide +kernel
theorem dX8_keystone_93 : decode cX8_keystone 93 = .ok (.iload_n 2, 1) := by decide +kernel
theorem dX8_keystone_94 : decode cX8_keystone 94 = .ok (.ireturn, 1) := by decide +kernel
set_option maxRecDepth 20000 in
theorem ggX8_holds_X8_isProved : GoodIn wsX8_holds wsX8_isProved := goodIn_r _ [6, 1, 7, 8, 9, 10, 11, 12, 13, 14, 15, 16, 17, 18, 19, 5, 20, 21, 22, 23, 24, 25, 26, 27, 28, 29, 30, 31, 32, 33, 152, 153, 154, 155, 156, 157, 158, 159, 160, 161, 162, 163, 164, 165, 166, 167, 168, 169, 170, 171, 172, 173, 174, 175, 176, 177, 178, 179, 180, 181, 182, 183, 184, 185] rfl rfl
set_option maxRecDepth 20000 in
theorem gX8_holds_X8_isProved : GoodIn wsX8_holds (wsV RX8 200 RX8 yX8_isProved wsX8_isProved) := goodIn_app (goodIn_of _ (by decide +kernel)) ggX8_holds_X8_isProved
set_option maxRecDepth 20000 in
theorem ggX8_holds_X8_standingNow : GoodIn wsX8_holds wsX8_standingNow := goodIn_r _ [37, 38, 39, 40, 41, 42, 5, 43, 1, 21, 22, 23, 24, 25, 26, 27, 28, 29, 30, 31, 32, 44, 45, 46, 47, 48, 49, 50, 51, 52, 53, 54, 55, 56, 57, 58, 59, 60, 61, 62, 63, 64, 65, 66, 67, 68, 69, 70, 71, 72, 73, 19, 20, 74, 75, 76, 77, 78, 79, 80, 81, 82, 83, 84, 85, 86, 87, 88, 89, 90, 91, 92, 93, 94, 95, 96, 97, 98, 99, 100, 101, 102, 103, 104, 105, 106, 107, 108, 109, 110, 111, 112, 113, 114, 115, 116, 117, 118, 119, 120, 121, 122, 123, 124, 125, 126, 127, 128, 129, 130, 131, 132, 133, 134, 135, 136, 137, 138, 139, 140, 11, 141, 18, 13, 142, 143, 144, 145, 152, 153, 154, 155, 156, 157, 158, 159, 160, 161, 162, 163, 164, 165, 166, 167, 168, 169, 182, 183, 184, 185, 186, 187, 188, 189, 190, 191, 192, 193, 194, 195, 170, 171, 172, 173, 174, 175, 176, 177, 178, 179, 180, 181, 196, 197, 198, 199, 200, 201] rfl rfl
set_option maxRecDepth 20000 in
theorem gX8_holds_X8_standingNow : GoodIn wsX8_holds (wsV RX8 224 RX8 yX8_standingNow wsX8_standingNow) := goodIn_app (goodIn_of _ (by decide +kernel)) ggX8_holds_X8_standingNow
set_option maxRecDepth 20000 in
theorem ggX8_holds_X8_standingWithout : GoodIn wsX8_holds wsX8_standingWithout := goodIn_r _ [149, 38, 150, 39, 21, 22, 23, 5, 24, 25, 26, 27, 28, 29, 30, 31, 32, 64, 65, 66, 47, 67, 52, 49, 68, 69, 70, 71, 72, 56, 73, 19, 20, 74, 75, 76, 77, 78, 79, 80, 81, 82, 83, 84, 63, 62, 54, 85, 86, 87, 88, 89, 90, 91, 92, 93, 94, 95, 96, 97, 98, 99, 100, 101, 102, 103, 104, 105, 106, 107, 108, 109, 110, 111, 112, 113, 114, 115, 116, 117, 118, 119, 120, 121, 122, 123, 124, 125, 126, 127, 128, 129, 130, 131, 132, 133, 134, 135, 136, 137, 138, 139, 140, 11, 141, 18, 13, 142, 143, 144, 145, 152, 153, 154, 155, 156, 157, 158, 159, 160, 161, 162, 163, 164, 186, 187, 188, 189, 190, 191, 192, 193, 194, 195, 165, 166, 167, 168, 169, 182, 183, 184, 185, 170, 171, 172, 173, 174, 175, 176, 177, 178, 179, 180, 181, 196, 197, 198, 199, 200, 201] rfl rfl
set_option maxRecDepth 20000 in
theorem gX8_holds_X8_standingWithout : GoodIn wsX8_holds (wsV RX8 296 RX8 yX8_standingWithout wsX8_standingWithout) := goodIn_app (goodIn_of _ (by decide +kernel)) ggX8_holds_X8_standingWithout
set_option maxRecDepth 20000 in
theorem ggX8_holds_X5_claims : GoodIn wsX8_holds wsX5_claims := goodIn_r _ [141, 18, 13, 170, 171, 172, 173, 174, 175, 176, 177, 178, 179, 180, 181] rfl rfl
set_option maxRecDepth 20000 in
theorem gX8_holds_X5_claims : GoodIn wsX8_holds (wsV RX8 290 RX5 yX5_claims wsX5_claims) := goodIn_app (goodIn_of _ (by decide +kernel)) ggX8_holds_X5_claims
theorem dX8_holds_0 : decode cX8_holds 0 = .ok (.aload_n 0, 1) := by decide +kernel
theorem dX8_holds_1 : decode cX8_holds 1 = .ok (.iload_n 1, 1) := by decide +kernel
theorem dX8_holds_2 : decode cX8_holds 2 = .ok (.invokevirtual 200, 3) := by decide +kernel
theorem dX8_holds_5 : decode cX8_holds 5 = .ok (.ifCond .ne 5, 3) := by decide +kernel
theorem dX8_holds_8 : decode cX8_holds 8 = .ok (.iconst (-1), 1) := by decide +kernel
theorem dX8_holds_9 : decode cX8_holds 9 = .ok (.ireturn, 1) := by decide +kernel
theorem dX8_holds_10 : decode cX8_holds 10 = .ok (.aload_n 0, 1) := by decide +kernel
theorem dX8_holds_11 : decode cX8_holds 11 = .ok (.invokevirtual 224, 3) := by decide +kernel
theorem dX8_holds_14 : decode cX8_holds 14 = .ok (.istore_n 2, 1) := by decide +kernel
theorem dX8_holds_15 : decode cX8_holds 15 = .ok (.iload_n 2, 1) := by decide +kernel
theorem dX8_holds_16 : decode cX8_holds 16 = .ok (.aload_n 0, 1) := by decide +kernel
theorem dX8_holds_17 : decode cX8_holds 17 = .ok (.iload_n 1, 1) := by decide +kernel
theorem dX8_holds_18 : decode cX8_holds 18 = .ok (.invokevirtual 296, 3) := by decide +kernel
theorem dX8_holds_21 : decode cX8_holds 21 = .ok (.iconst (-1), 1) := by decide +kernel
theorem dX8_holds_22 : decode cX8_holds 22 = .ok (.ixor, 1) := by decide +kernel
theorem dX8_holds_23 : decode cX8_holds 23 = .ok (.iand, 1) := by decide +kernel
theorem dX8_holds_24 : decode cX8_holds 24 = .ok (.aload_n 0, 1) := by decide +kernel
theorem dX8_holds_25 : decode cX8_holds 25 = .ok (.getfield 19, 3) := by decide +kernel
theorem dX8_holds_28 : decode cX8_holds 28 = .ok (.invokevirtual 290, 3) := by decide +kernel
theorem dX8_holds_31 : decode cX8_holds 31 = .ok (.iand, 1) := by decide +kernel
theorem dX8_holds_32 : decode cX8_holds 32 = .ok (.ireturn, 1) := by decide +kernel
set_option maxRecDepth 20000 in
theorem ggX8_standingWithout_X8_now : GoodIn wsX8_standingWithout wsX8_now := goodIn_r _ [8, 9, 10, 11, 12, 13, 14, 15, 16, 111, 112, 113, 114, 115, 116, 117, 118, 119, 120, 121, 122, 123, 139, 140, 141, 142] rfl rfl
set_option maxRecDepth 20000 in
theorem gX8_standingWithout_X8_now : GoodIn wsX8_standingWithout (wsV RX8 88 RX8 yX8_now wsX8_now) := goodIn_app (goodIn_of _ (by decide +kernel)) ggX8_standingWithout_X8_now
set_option maxRecDepth 20000 in
theorem ggX8_standingWithout_X2_standing : GoodIn wsX8_standingWithout wsX2_standing := goodIn_r _ [21, 22, 23, 24, 25, 26, 20, 27, 28, 29, 30, 31, 7, 32, 33, 34, 35, 36, 37, 38, 39, 40, 41, 42, 43, 44, 45, 46, 47, 48, 49, 50, 51, 52, 53, 54, 55, 56, 57, 58, 59, 60, 61, 62, 63, 64, 65, 66, 67, 68, 69, 70, 71, 72, 73, 74, 75, 76, 77, 78, 79, 80, 81, 82, 83, 84, 85, 86, 87, 88, 89, 90, 91, 92, 93, 94, 95, 96, 97, 98, 99, 100, 101, 102, 103, 104, 105, 106, 107, 108, 109, 110, 124, 125, 126, 127, 128, 129, 130, 131, 132, 133, 143, 144, 145, 146, 147, 148, 149, 150, 151, 152, 153, 154, 155, 156, 157, 158, 159, 160] rfl rfl
set_option maxRecDepth 20000 in
theorem gX8_standingWithout_X2_standing : GoodIn wsX8_standingWithout (wsV RX8 231 RX2 yX2_standing wsX2_standing) := goodIn_app (goodIn_of _ (by decide +kernel)) ggX8_standingWithout_X2_standing
theorem dX8_standingWithout_0 : decode cX8_standingWithout 0 = .ok (.aload_n 0, 1) := by decide +kernel
theorem dX8_standingWithout_1 : decode cX8_standingWithout 1 = .ok (.getfield 44, 3) := by decide +kernel
theorem dX8_standingWithout_4 : decode cX8_standingWithout 4 = .ok (.dup, 1) := by decide +kernel
theorem dX8_standingWithout_5 : decode cX8_standingWithout 5 = .ok (.getfield 299, 3) := by decide +kernel
theorem dX8_standingWithout_8 : decode cX8_standingWithout 8 = .ok (.iconst 1, 1) := by decide +kernel
theorem dX8_standingWithout_9 : decode cX8_standingWithout 9 = .ok (.iload_n 1, 1) := by decide +kernel
theorem dX8_standingWithout_10 : decode cX8_standingWithout 10 = .ok (.ishl, 1) := by decide +kernel
theorem dX8_standingWithout_11 : decode cX8_standingWithout 11 = .ok (.ixor, 1) := by decide +kernel
theorem dX8_standingWithout_12 : decode cX8_standingWithout 12 = .ok (.putfield 299, 3) := by decide +kernel
theorem dX8_standingWithout_15 : decode cX8_standingWithout 15 = .ok (.aload_n 0, 1) := by decide +kernel
theorem dX8_standingWithout_16 : decode cX8_standingWithout 16 = .ok (.getfield 44, 3) := by decide +kernel
theorem dX8_standingWithout_19 : decode cX8_standingWithout 19 = .ok (.aload_n 0, 1) := by decide +kernel
theorem dX8_standingWithout_20 : decode cX8_standingWithout 20 = .ok (.invokevirtual 88, 3) := by decide +kernel
theorem dX8_standingWithout_23 : decode cX8_standingWithout 23 = .ok (.getfield 145, 3) := by decide +kernel
theorem dX8_standingWithout_26 : decode cX8_standingWithout 26 = .ok (.invokevirtual 231, 3) := by decide +kernel
theorem dX8_standingWithout_29 : decode cX8_standingWithout 29 = .ok (.istore_n 2, 1) := by decide +kernel
theorem dX8_standingWithout_30 : decode cX8_standingWithout 30 = .ok (.aload_n 0, 1) := by decide +kernel
theorem dX8_standingWithout_31 : decode cX8_standingWithout 31 = .ok (.getfield 44, 3) := by decide +kernel
theorem dX8_standingWithout_34 : decode cX8_standingWithout 34 = .ok (.dup, 1) := by decide +kernel
theorem dX8_standingWithout_35 : decode cX8_standingWithout 35 = .ok (.getfield 299, 3) := by decide +kernel
theorem dX8_standingWithout_38 : decode cX8_standingWithout 38 = .ok (.iconst 1, 1) := by decide +kernel
theorem dX8_standingWithout_39 : decode cX8_standingWithout 39 = .ok (.iload_n 1, 1) := by decide +kernel
theorem dX8_standingWithout_40 : decode cX8_standingWithout 40 = .ok (.ishl, 1) := by decide +kernel
theorem dX8_standingWithout_41 : decode cX8_standingWithout 41 = .ok (.ixor, 1) := by decide +kernel
theorem dX8_standingWithout_42 : decode cX8_standingWithout 42 = .ok (.putfield 299, 3) := by decide +kernel
theorem dX8_standingWithout_45 : decode cX8_standingWithout 45 = .ok (.iload_n 2, 1) := by decide +kernel
theorem dX8_standingWithout_46 : decode cX8_standingWithout 46 = .ok (.ireturn, 1) := by decide +kernel
set_option maxRecDepth 20000 in
theorem ggX8_firmest_X8_isZeroOrOne : GoodIn wsX8_firmest wsX8_isZeroOrOne := goodIn_r _ [7] rfl rfl
set_option maxRecDepth 20000 in
theorem gX8_firmest_X8_isZeroOrOne : GoodIn wsX8_firmest (va_wsS RX8 234 yX8_isZeroOrOne wsX8_isZeroOrOne) := goodIn_app (goodIn_of _ (by decide +kernel)) ggX8_firmest_X8_isZeroOrOne
set_option maxRecDepth 20000 in
theorem ggX8_firmest_X8_standingNow : GoodIn wsX8_firmest wsX8_standingNow := goodIn_r _ [11, 3, 12, 13, 14, 15, 6, 16, 1, 17, 18, 19, 20, 21, 22, 23, 24, 25, 26, 27, 28, 29, 30, 31, 32, 33, 34, 35, 36, 37, 38, 39, 40, 41, 42, 43, 44, 45, 46, 47, 48, 49, 50, 51, 52, 53, 54, 55, 56, 57, 58, 59, 60, 61, 62, 63, 64, 65, 66, 67, 68, 69, 70, 71, 72, 73, 74, 75, 76, 77, 78, 79, 80, 81, 82, 83, 84, 85, 86, 87, 88, 89, 90, 91, 92, 93, 94, 95, 96, 97, 98, 99, 100, 101, 102, 103, 104, 105, 106, 107, 108, 109, 110, 111, 112, 113, 114, 115, 116, 117, 118, 119, 120, 121, 122, 123, 124, 125, 126, 127, 128, 129, 130, 131, 132, 133, 134, 135, 150, 151, 152, 153, 154, 155, 156, 157, 158, 159, 160, 161, 162, 175, 176, 177, 178, 179, 180, 181, 182, 183, 184, 185, 186, 187, 188, 189, 190, 191, 192, 193, 163, 164, 165, 166, 167, 168, 169, 170, 171, 172, 173, 174, 194, 195, 196, 197, 198, 199] rfl rfl
set_option maxRecDepth 20000 in
theorem gX8_firmest_X8_standingNow : GoodIn wsX8_firmest (wsV RX8 224 RX8 yX8_standingNow wsX8_standingNow) := goodIn_app (goodIn_of _ (by decide +kernel)) ggX8_firmest_X8_standingNow
set_option maxRecDepth 20000 in
theorem ggX8_firmest_X5_isClaim : GoodIn wsX8_firmest wsX5_isClaim := goodIn_r _ [139, 131, 140, 141, 142, 128, 143, 130, 59, 6, 60, 163, 164, 165, 166, 167, 168, 169, 170, 171, 172, 173, 174] rfl rfl
set_option maxRecDepth 20000 in
theorem gX8_firmest_X5_isClaim : GoodIn wsX8_firmest (wsV RX8 244 RX5 yX5_isClaim wsX5_isClaim) := goodIn_app (goodIn_of _ (by decide +kernel)) ggX8_firmest_X5_isClaim
set_option maxRecDepth 20000 in
theorem ggX8_firmest_X8_has : GoodIn wsX8_firmest wsX8_has := goodIn_r _ [60] rfl rfl
set_option maxRecDepth 20000 in
theorem gX8_firmest_X8_has : GoodIn wsX8_firmest (va_wsS RX8 220 yX8_has wsX8_has) := goodIn_app (goodIn_of _ (by decide +kernel)) ggX8_firmest_X8_has
set_option maxRecDepth 20000 in
theorem ggX8_firmest_X2_beyond : GoodIn wsX8_firmest wsX2_beyond := goodIn_r _ [148, 34, 114, 47, 149, 137, 138, 128, 139, 131, 140, 141, 142, 143, 130, 59, 6, 60, 184, 185, 186, 187, 188, 189, 190, 191, 192, 193, 163, 164, 165, 166, 167, 168, 169, 170, 171, 172, 173, 174] rfl rfl
set_option maxRecDepth 20000 in
theorem gX8_firmest_X2_beyond : GoodIn wsX8_firmest (wsV RX8 279 RX2 yX2_beyond wsX2_beyond) := goodIn_app (goodIn_of _ (by decide +kernel)) ggX8_firmest_X2_beyond
theorem dX8_firmest_0 : decode cX8_firmest 0 = .ok (.iload_n 1, 1) := by decide +kernel
theorem dX8_firmest_1 : decode cX8_firmest 1 = .ok (.invokestatic 234, 3) := by decide +kernel
theorem dX8_firmest_4 : decode cX8_firmest 4 = .ok (.ifCond .ne 5, 3) := by decide +kernel
theorem dX8_firmest_7 : decode cX8_firmest 7 = .ok (.iconst (-1), 1) := by decide +kernel
theorem dX8_firmest_8 : decode cX8_firmest 8 = .ok (.ireturn, 1) := by decide +kernel
theorem dX8_firmest_9 : decode cX8_firmest 9 = .ok (.aload_n 0, 1) := by decide +kernel
theorem dX8_firmest_10 : decode cX8_firmest 10 = .ok (.invokevirtual 224, 3) := by decide +kernel
theorem dX8_firmest_13 : decode cX8_firmest 13 = .ok (.istore_n 2, 1) := by decide +kernel
theorem dX8_firmest_14 : decode cX8_firmest 14 = .ok (.iconst (-1), 1) := by decide +kernel
theorem dX8_firmest_15 : decode cX8_firmest 15 = .ok (.istore_n 3, 1) := by decide +kernel
theorem dX8_firmest_16 : decode cX8_firmest 16 = .ok (.iconst (-1), 1) := by decide +kernel
theorem dX8_firmest_17 : decode cX8_firmest 17 = .ok (.istore 4, 2) := by decide +kernel
theorem dX8_firmest_19 : decode cX8_firmest 19 = .ok (.iconst 0, 1) := by decide +kernel
theorem dX8_firmest_20 : decode cX8_firmest 20 = .ok (.istore 5, 2) := by decide +kernel
theorem dX8_firmest_22 : decode cX8_firmest 22 = .ok (.iload 5, 2) := by decide +kernel
theorem dX8_firmest_24 : decode cX8_firmest 24 = .ok (.aload_n 0, 1) := by decide +kernel
theorem dX8_firmest_25 : decode cX8_firmest 25 = .ok (.getfield 19, 3) := by decide +kernel
theorem dX8_firmest_28 : decode cX8_firmest 28 = .ok (.getfield 105, 3) := by decide +kernel
theorem dX8_firmest_31 : decode cX8_firmest 31 = .ok (.if_icmp .ge 58, 3) := by decide +kernel
theorem dX8_firmest_34 : decode cX8_firmest 34 = .ok (.aload_n 0, 1) := by decide +kernel
theorem dX8_firmest_35 : decode cX8_firmest 35 = .ok (.getfield 19, 3) := by decide +kernel
theorem dX8_firmest_38 : decode cX8_firmest 38 = .ok (.iload 5, 2) := by decide +kernel
theorem dX8_firmest_40 : decode cX8_firmest 40 = .ok (.invokevirtual 244, 3) := by decide +kernel
theorem dX8_firmest_43 : decode cX8_firmest 43 = .ok (.ifCond .eq 40, 3) := by decide +kernel
theorem dX8_firmest_46 : decode cX8_firmest 46 = .ok (.iload_n 2, 1) := by decide +kernel
theorem dX8_firmest_47 : decode cX8_firmest 47 = .ok (.iload 5, 2) := by decide +kernel
theorem dX8_firmest_49 : decode cX8_firmest 49 = .ok (.invokestatic 220, 3) := by decide +kernel
theorem dX8_firmest_52 : decode cX8_firmest 52 = .ok (.ifCond .eq 31, 3) := by decide +kernel
theorem dX8_firmest_55 : decode cX8_firmest 55 = .ok (.aload_n 0, 1) := by decide +kernel
theorem dX8_firmest_56 : decode cX8_firmest 56 = .ok (.getfield 44, 3) := by decide +kernel
theorem dX8_firmest_59 : decode cX8_firmest 59 = .ok (.iload 5, 2) := by decide +kernel
theorem dX8_firmest_61 : decode cX8_firmest 61 = .ok (.invokevirtual 279, 3) := by decide +kernel
theorem dX8_firmest_64 : decode cX8_firmest 64 = .ok (.iload 4, 2) := by decide +kernel
theorem dX8_firmest_66 : decode cX8_firmest 66 = .ok (.if_icmp .le 17, 3) := by decide +kernel
theorem dX8_firmest_69 : decode cX8_firmest 69 = .ok (.iload 5, 2) := by decide +kernel
theorem dX8_firmest_71 : decode cX8_firmest 71 = .ok (.istore_n 3, 1) := by decide +kernel
theorem dX8_firmest_72 : decode cX8_firmest 72 = .ok (.aload_n 0, 1) := by decide +kernel
theorem dX8_firmest_73 : decode cX8_firmest 73 = .ok (.getfield 44, 3) := by decide +kernel
theorem dX8_firmest_76 : decode cX8_firmest 76 = .ok (.iload 5, 2) := by decide +kernel
theorem dX8_firmest_78 : decode cX8_firmest 78 = .ok (.invokevirtual 279, 3) := by decide +kernel
theorem dX8_firmest_81 : decode cX8_firmest 81 = .ok (.istore 4, 2) := by decide +kernel
theorem dX8_firmest_83 : decode cX8_firmest 83 = .ok (.iinc 5 1, 3) := by decide +kernel
theorem dX8_firmest_86 : decode cX8_firmest 86 = .ok (.goto (-64), 3) := by decide +kernel
theorem dX8_firmest_89 : decode cX8_firmest 89 = .ok (.iload_n 1, 1) := by decide +kernel
theorem dX8_firmest_90 : decode cX8_firmest 90 = .ok (.ifCond .ne 7, 3) := by decide +kernel
theorem dX8_firmest_93 : decode cX8_firmest 93 = .ok (.iload_n 3, 1) := by decide +kernel
theorem dX8_firmest_94 : decode cX8_firmest 94 = .ok (.goto 5, 3) := by decide +kernel
theorem dX8_firmest_97 : decode cX8_firmest 97 = .ok (.iload 4, 2) := by decide +kernel
theorem dX8_firmest_99 : decode cX8_firmest 99 = .ok (.ireturn, 1) := by decide +kernel
set_option maxRecDepth 20000 in
theorem ggX8_burdened_X8_now : GoodIn wsX8_burdened wsX8_now := goodIn_r _ [9, 10, 11, 12, 13, 14, 15, 16, 17, 25, 26, 27, 28, 29, 30, 31, 32, 33, 34, 35, 36, 37, 55, 56, 57, 58] rfl rfl
set_option maxRecDepth 20000 in
theorem gX8_burdened_X8_now : GoodIn wsX8_burdened (wsV RX8 88 RX8 yX8_now wsX8_now) := goodIn_app (goodIn_of _ (by decide +kernel)) ggX8_burdened_X8_now
set_option maxRecDepth 20000 in
theorem ggX8_burdened_J6_bitCount_0f7a4 : GoodIn wsX8_burdened wsJ6_bitCount_0f7a4 := goodIn_r _ [21, 22, 23, 24] rfl rfl
set_option maxRecDepth 20000 in
theorem gX8_burdened_J6_bitCount_0f7a4 : GoodIn wsX8_burdened (va_wsS RX8 274 yJ6_bitCount_0f7a4 wsJ6_bitCount_0f7a4) := goodIn_app (goodIn_of _ (by decide +kernel)) ggX8_burdened_J6_bitCount_0f7a4
theorem dX8_burdened_0 : decode cX8_burdened 0 = .ok (.iconst (-1), 1) := by decide +kernel
theorem dX8_burdened_1 : decode cX8_burdened 1 = .ok (.istore_n 1, 1) := by decide +kernel
theorem dX8_burdened_2 : decode cX8_burdened 2 = .ok (.iconst (-1), 1) := by decide +kernel
theorem dX8_burdened_3 : decode cX8_burdened 3 = .ok (.istore_n 2, 1) := by decide +kernel
theorem dX8_burdened_4 : decode cX8_burdened 4 = .ok (.iconst 0, 1) := by decide +kernel
theorem dX8_burdened_5 : decode cX8_burdened 5 = .ok (.istore_n 3, 1) := by decide +kernel
theorem dX8_burdened_6 : decode cX8_burdened 6 = .ok (.iload_n 3, 1) := by decide +kernel
theorem dX8_burdened_7 : decode cX8_burdened 7 = .ok (.aload_n 0, 1) := by decide +kernel
theorem dX8_burdened_8 : decode cX8_burdened 8 = .ok (.getfield 19, 3) := by decide +kernel
theorem dX8_burdened_11 : decode cX8_burdened 11 = .ok (.getfield 105, 3) := by decide +kernel
theorem dX8_burdened_14 : decode cX8_burdened 14 = .ok (.if_icmp .ge 42, 3) := by decide +kernel
theorem dX8_burdened_17 : decode cX8_burdened 17 = .ok (.aload_n 0, 1) := by decide +kernel
theorem dX8_burdened_18 : decode cX8_burdened 18 = .ok (.getfield 19, 3) := by decide +kernel
theorem dX8_burdened_21 : decode cX8_burdened 21 = .ok (.getfield 130, 3) := by decide +kernel
theorem dX8_burdened_24 : decode cX8_burdened 24 = .ok (.iload_n 3, 1) := by decide +kernel
theorem dX8_burdened_25 : decode cX8_burdened 25 = .ok (.iaload, 1) := by decide +kernel
theorem dX8_burdened_26 : decode cX8_burdened 26 = .ok (.aload_n 0, 1) := by decide +kernel
theorem dX8_burdened_27 : decode cX8_burdened 27 = .ok (.invokevirtual 88, 3) := by decide +kernel
theorem dX8_burdened_30 : decode cX8_burdened 30 = .ok (.getfield 145, 3) := by decide +kernel
theorem dX8_burdened_33 : decode cX8_burdened 33 = .ok (.iand, 1) := by decide +kernel
theorem dX8_burdened_34 : decode cX8_burdened 34 = .ok (.invokestatic 274, 3) := by decide +kernel
theorem dX8_burdened_37 : decode cX8_burdened 37 = .ok (.istore 4, 2) := by decide +kernel
theorem dX8_burdened_39 : decode cX8_burdened 39 = .ok (.iload 4, 2) := by decide +kernel
theorem dX8_burdened_41 : decode cX8_burdened 41 = .ok (.iload_n 2, 1) := by decide +kernel
theorem dX8_burdened_42 : decode cX8_burdened 42 = .ok (.if_icmp .le 8, 3) := by decide +kernel
theorem dX8_burdened_45 : decode cX8_burdened 45 = .ok (.iload_n 3, 1) := by decide +kernel
theorem dX8_burdened_46 : decode cX8_burdened 46 = .ok (.istore_n 1, 1) := by decide +kernel
theorem dX8_burdened_47 : decode cX8_burdened 47 = .ok (.iload 4, 2) := by decide +kernel
theorem dX8_burdened_49 : decode cX8_burdened 49 = .ok (.istore_n 2, 1) := by decide +kernel
theorem dX8_burdened_50 : decode cX8_burdened 50 = .ok (.iinc 3 1, 3) := by decide +kernel
theorem dX8_burdened_53 : decode cX8_burdened 53 = .ok (.goto (-47), 3) := by decide +kernel
theorem dX8_burdened_56 : decode cX8_burdened 56 = .ok (.iload_n 1, 1) := by decide +kernel
theorem dX8_burdened_57 : decode cX8_burdened 57 = .ok (.ireturn, 1) := by decide +kernel
set_option maxRecDepth 20000 in
theorem ggX8_roots_X5_isClaim : GoodIn wsX8_roots wsX5_isClaim := goodIn_r _ [8, 9, 10, 11, 12, 7, 13, 14, 15, 16, 17, 55, 56, 57, 58, 59, 60, 61, 62, 63, 64, 65, 66] rfl rfl
set_option maxRecDepth 20000 in
theorem gX8_roots_X5_isClaim : GoodIn wsX8_roots (wsV RX8 244 RX5 yX5_isClaim wsX5_isClaim) := goodIn_app (goodIn_of _ (by decide +kernel)) ggX8_roots_X5_isClaim
set_option maxRecDepth 20000 in
theorem ggX8_roots_X8_now : GoodIn wsX8_roots wsX8_now := goodIn_r _ [21, 22, 23, 24, 25, 26, 27, 28, 29, 37, 38, 39, 40, 41, 42, 43, 44, 45, 46, 47, 48, 49, 67, 68, 69, 70] rfl rfl
set_option maxRecDepth 20000 in
theorem gX8_roots_X8_now : GoodIn wsX8_roots (wsV RX8 88 RX8 yX8_now wsX8_now) := goodIn_app (goodIn_of _ (by decide +kernel)) ggX8_roots_X8_now
set_option maxRecDepth 20000 in
theorem ggX8_roots_X5_behind : GoodIn wsX8_roots wsX5_behind := goodIn_r _ [33, 34, 35, 36, 15, 16, 17, 55, 56, 57, 58, 59, 60, 61, 62, 63, 64, 65, 66] rfl rfl
set_option maxRecDepth 20000 in
theorem gX8_roots_X5_behind : GoodIn wsX8_roots (wsV RX8 302 RX5 yX5_behind wsX5_behind) := goodIn_app (goodIn_of _ (by decide +kernel)) ggX8_roots_X5_behind
theorem dX8_roots_0 : decode cX8_roots 0 = .ok (.aload_n 0, 1) := by decide +kernel
theorem dX8_roots_1 : decode cX8_roots 1 = .ok (.getfield 19, 3) := by decide +kernel
theorem dX8_roots_4 : decode cX8_roots 4 = .ok (.iload_n 1, 1) := by decide +kernel
theorem dX8_roots_5 : decode cX8_roots 5 = .ok (.invokevirtual 244, 3) := by decide +kernel
theorem dX8_roots_8 : decode cX8_roots 8 = .ok (.ifCond .ne 5, 3) := by decide +kernel
theorem dX8_roots_11 : decode cX8_roots 11 = .ok (.iconst (-1), 1) := by decide +kernel
theorem dX8_roots_12 : decode cX8_roots 12 = .ok (.ireturn, 1) := by decide +kernel
theorem dX8_roots_13 : decode cX8_roots 13 = .ok (.iconst 1, 1) := by decide +kernel
theorem dX8_roots_14 : decode cX8_roots 14 = .ok (.iload_n 1, 1) := by decide +kernel
theorem dX8_roots_15 : decode cX8_roots 15 = .ok (.ishl, 1) := by decide +kernel
theorem dX8_roots_16 : decode cX8_roots 16 = .ok (.istore_n 2, 1) := by decide +kernel
theorem dX8_roots_17 : decode cX8_roots 17 = .ok (.iconst 0, 1) := by decide +kernel
theorem dX8_roots_18 : decode cX8_roots 18 = .ok (.istore_n 3, 1) := by decide +kernel
theorem dX8_roots_19 : decode cX8_roots 19 = .ok (.iload_n 3, 1) := by decide +kernel
theorem dX8_roots_20 : decode cX8_roots 20 = .ok (.bipush 10, 2) := by decide +kernel
theorem dX8_roots_22 : decode cX8_roots 22 = .ok (.if_icmp .ge 27, 3) := by decide +kernel
theorem dX8_roots_25 : decode cX8_roots 25 = .ok (.iload_n 2, 1) := by decide +kernel
theorem dX8_roots_26 : decode cX8_roots 26 = .ok (.aload_n 0, 1) := by decide +kernel
theorem dX8_roots_27 : decode cX8_roots 27 = .ok (.getfield 19, 3) := by decide +kernel
theorem dX8_roots_30 : decode cX8_roots 30 = .ok (.iload_n 2, 1) := by decide +kernel
theorem dX8_roots_31 : decode cX8_roots 31 = .ok (.aload_n 0, 1) := by decide +kernel
theorem dX8_roots_32 : decode cX8_roots 32 = .ok (.invokevirtual 88, 3) := by decide +kernel
theorem dX8_roots_35 : decode cX8_roots 35 = .ok (.getfield 145, 3) := by decide +kernel
theorem dX8_roots_38 : decode cX8_roots 38 = .ok (.invokevirtual 302, 3) := by decide +kernel
theorem dX8_roots_41 : decode cX8_roots 41 = .ok (.ior, 1) := by decide +kernel
theorem dX8_roots_42 : decode cX8_roots 42 = .ok (.istore_n 2, 1) := by decide +kernel
theorem dX8_roots_43 : decode cX8_roots 43 = .ok (.iinc 3 1, 3) := by decide +kernel
theorem dX8_roots_46 : decode cX8_roots 46 = .ok (.goto (-27), 3) := by decide +kernel
theorem dX8_roots_49 : decode cX8_roots 49 = .ok (.iload_n 2, 1) := by decide +kernel
theorem dX8_roots_50 : decode cX8_roots 50 = .ok (.aload_n 0, 1) := by decide +kernel
theorem dX8_roots_51 : decode cX8_roots 51 = .ok (.getfield 19, 3) := by decide +kernel
theorem dX8_roots_54 : decode cX8_roots 54 = .ok (.getfield 118, 3) := by decide +kernel
theorem dX8_roots_57 : decode cX8_roots 57 = .ok (.iand, 1) := by decide +kernel
theorem dX8_roots_58 : decode cX8_roots 58 = .ok (.ireturn, 1) := by decide +kernel
set_option maxRecDepth 20000 in
theorem ggX8_moot_X5_isClaim : GoodIn wsX8_moot wsX5_isClaim := goodIn_r _ [8, 9, 10, 11, 12, 7, 13, 14, 15, 16, 17, 165, 166, 167, 168, 169, 170, 171, 172, 173, 174, 175, 176] rfl rfl
set_option maxRecDepth 20000 in
theorem gX8_moot_X5_isClaim : GoodIn wsX8_moot (wsV RX8 244 RX5 yX5_isClaim wsX5_isClaim) := goodIn_app (goodIn_of _ (by decide +kernel)) ggX8_moot_X5_isClaim
set_option maxRecDepth 20000 in
theorem ggX8_moot_X8_isZeroOrOne : GoodIn wsX8_moot wsX8_isZeroOrOne := goodIn_r _ [20] rfl rfl
set_option maxRecDepth 20000 in
theorem gX8_moot_X8_isZeroOrOne : GoodIn wsX8_moot (va_wsS RX8 234 yX8_isZeroOrOne wsX8_isZeroOrOne) := goodIn_app (goodIn_of _ (by decide +kernel)) ggX8_moot_X8_isZeroOrOne
set_option maxRecDepth 20000 in
theorem ggX8_moot_X8_look : GoodIn wsX8_moot wsX8_look := goodIn_r _ [24, 25, 1, 26, 27, 28, 16, 29, 30, 31, 32, 33, 34, 35, 36, 37, 38, 39, 40, 41, 42, 43, 44, 45, 46, 47, 48, 49, 50, 51, 52, 53, 54, 55, 56, 57, 152, 153, 154, 155, 156, 157, 158, 159, 160, 161, 162, 163, 164, 182, 183, 184, 185, 186, 187, 188, 189, 190, 191, 192, 193, 194, 195, 165, 166, 167, 168, 169, 170, 171, 172, 173, 174, 175, 176, 177, 178, 179, 180, 181] rfl rfl
set_option maxRecDepth 20000 in
theorem gX8_moot_X8_look : GoodIn wsX8_moot (wsV RX8 148 RX8 yX8_look wsX8_look) := goodIn_app (goodIn_of _ (by decide +kernel)) ggX8_moot_X8_look
set_option maxRecDepth 20000 in
theorem ggX8_moot_X8_now : GoodIn wsX8_moot wsX8_now := goodIn_r _ [29, 30, 31, 32, 33, 34, 35, 36, 37, 152, 153, 154, 155, 156, 157, 158, 159, 160, 161, 162, 163, 164, 182, 183, 184, 185] rfl rfl
set_option maxRecDepth 20000 in
theorem gX8_moot_X8_now : GoodIn wsX8_moot (wsV RX8 88 RX8 yX8_now wsX8_now) := goodIn_app (goodIn_of _ (by decide +kernel)) ggX8_moot_X8_now
set_option maxRecDepth 20000 in
theorem ggX8_moot_X8_moved : GoodIn wsX8_moot wsX8_moved := goodIn_r _ [60] rfl rfl
set_option maxRecDepth 20000 in
theorem gX8_moot_X8_moved : GoodIn wsX8_moot (va_wsS RX8 308 yX8_moved wsX8_moved) := goodIn_app (goodIn_of _ (by decide +kernel)) ggX8_moot_X8_moved
set_option maxRecDepth 20000 in
theorem ggX8_moot_X8_endsUp : GoodIn wsX8_moot wsX8_endsUp := goodIn_r _ [64, 1, 2, 65, 66, 67, 16, 68, 25, 69, 70, 71, 41, 72, 46, 43, 73, 74, 75, 76, 77, 50, 78, 15, 17, 79, 80, 81, 82, 83, 84, 85, 86, 87, 88, 89, 57, 56, 48, 90, 91, 92, 93, 94, 95, 96, 97, 98, 99, 100, 101, 102, 103, 104, 105, 106, 107, 108, 109, 110, 111, 112, 113, 114, 115, 116, 117, 118, 119, 120, 121, 122, 123, 124, 125, 126, 127, 128, 129, 130, 131, 132, 133, 134, 135, 136, 137, 138, 139, 140, 141, 142, 143, 144, 145, 7, 146, 14, 9, 147, 148, 149, 150, 151, 58, 59, 60, 61, 62, 63, 152, 153, 154, 155, 156, 157, 158, 159, 160, 161, 162, 163, 164, 165, 166, 167, 168, 169, 170, 171, 172, 173, 174, 175, 176, 186, 187, 188, 189, 190, 191, 192, 193, 194, 195, 196, 197, 198, 199, 200, 201] rfl rfl
set_option maxRecDepth 20000 in
theorem gX8_moot_X8_endsUp : GoodIn wsX8_moot (wsV RX8 311 RX8 yX8_endsUp wsX8_endsUp) := goodIn_app (goodIn_of _ (by decide +kernel)) ggX8_moot_X8_endsUp
theorem dX8_moot_0 : decode cX8_moot 0 = .ok (.aload_n 0, 1) := by decide +kernel
theorem dX8_moot_1 : decode cX8_moot 1 = .ok (.getfield 19, 3) := by decide +kernel
theorem dX8_moot_4 : decode cX8_moot 4 = .ok (.iload_n 1, 1) := by decide +kernel
theorem dX8_moot_5 : decode cX8_moot 5 = .ok (.invokevirtual 244, 3) := by decide +kernel
theorem dX8_moot_8 : decode cX8_moot 8 = .ok (.ifCond .eq 20, 3) := by decide +kernel
theorem dX8_moot_11 : decode cX8_moot 11 = .ok (.iload_n 2, 1) := by decide +kernel
theorem dX8_moot_12 : decode cX8_moot 12 = .ok (.iconst 1, 1) := by decide +kernel
theorem dX8_moot_13 : decode cX8_moot 13 = .ok (.if_icmp .lt 15, 3) := by decide +kernel
theorem dX8_moot_16 : decode cX8_moot 16 = .ok (.iload_n 2, 1) := by decide +kernel
theorem dX8_moot_17 : decode cX8_moot 17 = .ok (.iconst 3, 1) := by decide +kernel
theorem dX8_moot_18 : decode cX8_moot 18 = .ok (.if_icmp .gt 10, 3) := by decide +kernel
theorem dX8_moot_21 : decode cX8_moot 21 = .ok (.iload_n 3, 1) := by decide +kernel
theorem dX8_moot_22 : decode cX8_moot 22 = .ok (.invokestatic 234, 3) := by decide +kernel
theorem dX8_moot_25 : decode cX8_moot 25 = .ok (.ifCond .ne 6, 3) := by decide +kernel
theorem dX8_moot_28 : decode cX8_moot 28 = .ok (.bipush (-2), 2) := by decide +kernel
theorem dX8_moot_30 : decode cX8_moot 30 = .ok (.ireturn, 1) := by decide +kernel
theorem dX8_moot_31 : decode cX8_moot 31 = .ok (.aload_n 0, 1) := by decide +kernel
theorem dX8_moot_32 : decode cX8_moot 32 = .ok (.invokevirtual 148, 3) := by decide +kernel
theorem dX8_moot_35 : decode cX8_moot 35 = .ok (.iconst (-1), 1) := by decide +kernel
theorem dX8_moot_36 : decode cX8_moot 36 = .ok (.istore 4, 2) := by decide +kernel
theorem dX8_moot_38 : decode cX8_moot 38 = .ok (.iload 4, 2) := by decide +kernel
theorem dX8_moot_40 : decode cX8_moot 40 = .ok (.aload_n 0, 1) := by decide +kernel
theorem dX8_moot_41 : decode cX8_moot 41 = .ok (.getfield 19, 3) := by decide +kernel
theorem dX8_moot_44 : decode cX8_moot 44 = .ok (.getfield 157, 3) := by decide +kernel
theorem dX8_moot_47 : decode cX8_moot 47 = .ok (.if_icmp .ge 44, 3) := by decide +kernel
theorem dX8_moot_50 : decode cX8_moot 50 = .ok (.aload_n 0, 1) := by decide +kernel
theorem dX8_moot_51 : decode cX8_moot 51 = .ok (.iload_n 1, 1) := by decide +kernel
theorem dX8_moot_52 : decode cX8_moot 52 = .ok (.aload_n 0, 1) := by decide +kernel
theorem dX8_moot_53 : decode cX8_moot 53 = .ok (.invokevirtual 88, 3) := by decide +kernel
theorem dX8_moot_56 : decode cX8_moot 56 = .ok (.getfield 145, 3) := by decide +kernel
theorem dX8_moot_59 : decode cX8_moot 59 = .ok (.iload 4, 2) := by decide +kernel
theorem dX8_moot_61 : decode cX8_moot 61 = .ok (.invokestatic 308, 3) := by decide +kernel
theorem dX8_moot_64 : decode cX8_moot 64 = .ok (.iload_n 2, 1) := by decide +kernel
theorem dX8_moot_65 : decode cX8_moot 65 = .ok (.iconst 1, 1) := by decide +kernel
theorem dX8_moot_66 : decode cX8_moot 66 = .ok (.isub, 1) := by decide +kernel
theorem dX8_moot_67 : decode cX8_moot 67 = .ok (.iconst 1, 1) := by decide +kernel
theorem dX8_moot_68 : decode cX8_moot 68 = .ok (.invokevirtual 311, 3) := by decide +kernel
theorem dX8_moot_71 : decode cX8_moot 71 = .ok (.ifCond .ne 14, 3) := by decide +kernel
theorem dX8_moot_74 : decode cX8_moot 74 = .ok (.iload_n 3, 1) := by decide +kernel
theorem dX8_moot_75 : decode cX8_moot 75 = .ok (.ifCond .ne 7, 3) := by decide +kernel
theorem dX8_moot_78 : decode cX8_moot 78 = .ok (.iconst 0, 1) := by decide +kernel
theorem dX8_moot_79 : decode cX8_moot 79 = .ok (.goto 5, 3) := by decide +kernel
theorem dX8_moot_82 : decode cX8_moot 82 = .ok (.iload 4, 2) := by decide +kernel
theorem dX8_moot_84 : decode cX8_moot 84 = .ok (.ireturn, 1) := by decide +kernel
theorem dX8_moot_85 : decode cX8_moot 85 = .ok (.iinc 4 1, 3) := by decide +kernel
theorem dX8_moot_88 : decode cX8_moot 88 = .ok (.goto (-50), 3) := by decide +kernel
theorem dX8_moot_91 : decode cX8_moot 91 = .ok (.iload_n 3, 1) := by decide +kernel
theorem dX8_moot_92 : decode cX8_moot 92 = .ok (.ifCond .ne 7, 3) := by decide +kernel
theorem dX8_moot_95 : decode cX8_moot 95 = .ok (.iconst 1, 1) := by decide +kernel
theorem dX8_moot_96 : decode cX8_moot 96 = .ok (.goto 4, 3) := by decide +kernel
theorem dX8_moot_99 : decode cX8_moot 99 = .ok (.iconst (-1), 1) := by decide +kernel
theorem dX8_moot_100 : decode cX8_moot 100 = .ok (.ireturn, 1) := by decide +kernel
set_option maxRecDepth 20000 in
theorem ggX8_endsUp_X8_moved : GoodIn wsX8_endsUp wsX8_moved := goodIn_r _ [106] rfl rfl
set_option maxRecDepth 20000 in
theorem gX8_endsUp_X8_moved : GoodIn wsX8_endsUp (va_wsS RX8 308 yX8_moved wsX8_moved) := goodIn_app (goodIn_of _ (by decide +kernel)) ggX8_endsUp_X8_moved
set_option maxRecDepth 20000 in
theorem ggX8_endsUp_X8_endsUp : GoodIn wsX8_endsUp wsX8_endsUp := goodIn_r _ [0, 1, 2, 3, 4, 5, 6, 7, 8, 9, 10, 11, 12, 13, 14, 15, 16, 17, 18, 19, 20, 21, 22, 23, 24, 25, 26, 27, 28, 29, 30, 31, 32, 33, 34, 35, 36, 37, 38, 39, 40, 41, 42, 43, 44, 45, 46, 47, 48, 49, 50, 51, 52, 53, 54, 55, 56, 57, 58, 59, 60, 61, 62, 63, 64, 65, 66, 67, 68, 69, 70, 71, 72, 73, 74, 75, 76, 77, 78, 79, 80, 81, 82, 83, 84, 85, 86, 87, 88, 89, 90, 91, 92, 93, 94, 95, 96, 97, 98, 99, 100, 101, 102, 103, 104, 105, 106, 107, 108, 109, 110, 111, 112, 113, 114, 115, 116, 117, 118, 119, 120, 121, 122, 123, 124, 125, 126, 127, 128, 129, 130, 131, 132, 133, 134, 135, 136, 137, 138, 139, 140, 141, 142, 143, 144, 145, 146, 147, 148, 149, 150] rfl rfl
set_option maxRecDepth 20000 in
theorem gX8_endsUp_X8_endsUp : GoodIn wsX8_endsUp (wsV RX8 311 RX8 yX8_endsUp wsX8_endsUp) := goodIn_app (goodIn_of _ (by decide +kernel)) ggX8_endsUp_X8_endsUp
theorem dX8_endsUp_11 : decode cX8_endsUp 11 = .ok (.iconst (-1), 1) := by decide +kernel
theorem dX8_endsUp_12 : decode cX8_endsUp 12 = .ok (.istore 5, 2) := by decide +kernel
theorem dX8_endsUp_14 : decode cX8_endsUp 14 = .ok (.iload 5, 2) := by decide +kernel
theorem dX8_endsUp_16 : decode cX8_endsUp 16 = .ok (.aload_n 0, 1) := by decide +kernel
theorem dX8_endsUp_17 : decode cX8_endsUp 17 = .ok (.getfield 19, 3) := by decide +kernel
theorem dX8_endsUp_20 : decode cX8_endsUp 20 = .ok (.getfield 157, 3) := by decide +kernel
theorem dX8_endsUp_23 : decode cX8_endsUp 23 = .ok (.if_icmp .ge 41, 3) := by decide +kernel
theorem dX8_endsUp_26 : decode cX8_endsUp 26 = .ok (.aload_n 0, 1) := by decide +kernel
theorem dX8_endsUp_27 : decode cX8_endsUp 27 = .ok (.iload_n 1, 1) := by decide +kernel
theorem dX8_endsUp_28 : decode cX8_endsUp 28 = .ok (.iload_n 2, 1) := by decide +kernel
theorem dX8_endsUp_29 : decode cX8_endsUp 29 = .ok (.iload 5, 2) := by decide +kernel
theorem dX8_endsUp_31 : decode cX8_endsUp 31 = .ok (.invokestatic 308, 3) := by decide +kernel
theorem dX8_endsUp_34 : decode cX8_endsUp 34 = .ok (.iload_n 3, 1) := by decide +kernel
theorem dX8_endsUp_35 : decode cX8_endsUp 35 = .ok (.iconst 1, 1) := by decide +kernel
theorem dX8_endsUp_36 : decode cX8_endsUp 36 = .ok (.isub, 1) := by decide +kernel
theorem dX8_endsUp_37 : decode cX8_endsUp 37 = .ok (.iload 4, 2) := by decide +kernel
theorem dX8_endsUp_39 : decode cX8_endsUp 39 = .ok (.ifCond .ne 7, 3) := by decide +kernel
theorem dX8_endsUp_42 : decode cX8_endsUp 42 = .ok (.iconst 1, 1) := by decide +kernel
theorem dX8_endsUp_43 : decode cX8_endsUp 43 = .ok (.goto 4, 3) := by decide +kernel
theorem dX8_endsUp_46 : decode cX8_endsUp 46 = .ok (.iconst 0, 1) := by decide +kernel
theorem dX8_endsUp_47 : decode cX8_endsUp 47 = .ok (.invokevirtual 311, 3) := by decide +kernel
theorem dX8_endsUp_50 : decode cX8_endsUp 50 = .ok (.iload 4, 2) := by decide +kernel
theorem dX8_endsUp_52 : decode cX8_endsUp 52 = .ok (.if_icmp .ne 6, 3) := by decide +kernel
theorem dX8_endsUp_55 : decode cX8_endsUp 55 = .ok (.iload 4, 2) := by decide +kernel
theorem dX8_endsUp_57 : decode cX8_endsUp 57 = .ok (.ireturn, 1) := by decide +kernel
theorem dX8_endsUp_58 : decode cX8_endsUp 58 = .ok (.iinc 5 1, 3) := by decide +kernel
theorem dX8_endsUp_61 : decode cX8_endsUp 61 = .ok (.goto (-47), 3) := by decide +kernel
theorem dX8_endsUp_64 : decode cX8_endsUp 64 = .ok (.iload 4, 2) := by decide +kernel
theorem dX8_endsUp_66 : decode cX8_endsUp 66 = .ok (.ifCond .ne 7, 3) := by decide +kernel
theorem dX8_endsUp_69 : decode cX8_endsUp 69 = .ok (.iconst 1, 1) := by decide +kernel
theorem dX8_endsUp_70 : decode cX8_endsUp 70 = .ok (.goto 4, 3) := by decide +kernel
theorem dX8_endsUp_73 : decode cX8_endsUp 73 = .ok (.iconst 0, 1) := by decide +kernel
theorem dX8_endsUp_74 : decode cX8_endsUp 74 = .ok (.ireturn, 1) := by decide +kernel
theorem in_X8_endsUp_X8 : ∀ w ∈ wsX80, w ∈ wsX8_endsUp := fun _ h => List.mem_cons_of_mem _ (List.mem_append_left _ (List.mem_append_left _ (List.mem_append_left _ (List.mem_append_right _ h))))
theorem in_X8_endsUp_X5 : ∀ w ∈ wsX50, w ∈ wsX8_endsUp := fun _ h => List.mem_cons_of_mem _ (List.mem_append_left _ (List.mem_append_left _ (List.mem_append_right _ h)))
theorem in_X8_moot_X8 : ∀ w ∈ wsX80, w ∈ wsX8_moot := fun _ h => List.mem_cons_of_mem _ (List.mem_append_left _ (List.mem_append_left _ (List.mem_append_left _ (List.mem_append_left _ (List.mem_append_left _ (List.mem_append_right _ h))))))
theorem in_X8_moot_X5 : ∀ w ∈ wsX50, w ∈ wsX8_moot := fun _ h => List.mem_cons_of_mem _ (List.mem_append_left _ (List.mem_append_left _ (List.mem_append_left _ (List.mem_append_left _ (List.mem_append_right _ h)))))
theorem in_X8_moot_X4 : ∀ w ∈ wsX40, w ∈ wsX8_moot := fun _ h => List.mem_cons_of_mem _ (List.mem_append_left _ (List.mem_append_left _ (List.mem_append_left _ (List.mem_append_right _ h))))
theorem in_X2_age_X2 : ∀ w ∈ wsX20, w ∈ wsX2_age := fun _ h => List.mem_cons_of_mem _ (List.mem_append_right _ h)
theorem in_X8_fall_X8 : ∀ w ∈ wsX80, w ∈ wsX8_fall := fun _ h => List.mem_cons_of_mem _ (List.mem_append_left _ (List.mem_append_left _ (List.mem_append_left _ (List.mem_append_left _ (List.mem_append_left _ (List.mem_append_right _ h))))))
theorem in_X8_fall_X4 : ∀ w ∈ wsX40, w ∈ wsX8_fall := fun _ h => List.mem_cons_of_mem _ (List.mem_append_left _ (List.mem_append_left _ (List.mem_append_left _ (List.mem_append_left _ (List.mem_append_right _ h)))))
theorem in_X8_standingWithout_X8 : ∀ w ∈ wsX80, w ∈ wsX8_standingWithout := fun _ h => List.mem_cons_of_mem _ (List.mem_append_left _ (List.mem_append_left _ (List.mem_append_left _ (List.mem_append_left _ (List.mem_append_left _ (List.mem_append_right _ h))))))
theorem in_X8_standingWithout_X2 : ∀ w ∈ wsX20, w ∈ wsX8_standingWithout := fun _ h => List.mem_cons_of_mem _ (List.mem_append_left _ (List.mem_append_left _ (List.mem_append_left _ (List.mem_append_left _ (List.mem_append_right _ h)))))
theorem in_X8_standingWithout_X4 : ∀ w ∈ wsX40, w ∈ wsX8_standingWithout := fun _ h => List.mem_cons_of_mem _ (List.mem_append_left _ (List.mem_append_left _ (List.mem_append_left _ (List.mem_append_right _ h))))
theorem in_X8_keystone_X8 : ∀ w ∈ wsX80, w ∈ wsX8_keystone := fun _ h => List.mem_cons_of_mem _ (List.mem_append_left _ (List.mem_append_left _ (List.mem_append_left _ (List.mem_append_left _ (List.mem_append_left _ (List.mem_append_right _ h))))))
theorem in_X8_keystone_X5 : ∀ w ∈ wsX50, w ∈ wsX8_keystone := fun _ h => List.mem_cons_of_mem _ (List.mem_append_left _ (List.mem_append_left _ (List.mem_append_left _ (List.mem_append_left _ (List.mem_append_right _ h)))))
theorem in_X8_holds_X8 : ∀ w ∈ wsX80, w ∈ wsX8_holds := fun _ h => List.mem_cons_of_mem _ (List.mem_append_left _ (List.mem_append_left _ (List.mem_append_left _ (List.mem_append_left _ (List.mem_append_left _ (List.mem_append_right _ h))))))
theorem in_X8_spare_X8 : ∀ w ∈ wsX80, w ∈ wsX8_spare := fun _ h => List.mem_cons_of_mem _ (List.mem_append_left _ (List.mem_append_left _ (List.mem_append_left _ (List.mem_append_left _ (List.mem_append_right _ h)))))
theorem in_X8_spare_X5 : ∀ w ∈ wsX50, w ∈ wsX8_spare := fun _ h => List.mem_cons_of_mem _ (List.mem_append_left _ (List.mem_append_left _ (List.mem_append_left _ (List.mem_append_right _ h))))
theorem in_X8_spare_X4 : ∀ w ∈ wsX40, w ∈ wsX8_spare := fun _ h => List.mem_cons_of_mem _ (List.mem_append_left _ (List.mem_append_left _ (List.mem_append_left _ (List.mem_append_left _ (List.mem_append_left _ (List.mem_append_right _ h))))))
theorem in_X8_firmest_X8 : ∀ w ∈ wsX80, w ∈ wsX8_firmest := fun _ h => List.mem_cons_of_mem _ (List.mem_append_left _ (List.mem_append_left _ (List.mem_append_left _ (List.mem_append_left _ (List.mem_append_left _ (List.mem_append_right _ h))))))
theorem in_X8_firmest_X5 : ∀ w ∈ wsX50, w ∈ wsX8_firmest := fun _ h => List.mem_cons_of_mem _ (List.mem_append_left _ (List.mem_append_left _ (List.mem_append_left _ (List.mem_append_left _ (List.mem_append_right _ h)))))
theorem in_X8_burdened_X8 : ∀ w ∈ wsX80, w ∈ wsX8_burdened := fun _ h => List.mem_cons_of_mem _ (List.mem_append_left _ (List.mem_append_left _ (List.mem_append_left _ (List.mem_append_right _ h))))
theorem in_X8_burdened_X5 : ∀ w ∈ wsX50, w ∈ wsX8_burdened := fun _ h => List.mem_cons_of_mem _ (List.mem_append_left _ (List.mem_append_left _ (List.mem_append_right _ h)))
theorem in_X8_burdened_X4 : ∀ w ∈ wsX40, w ∈ wsX8_burdened := fun _ h => List.mem_cons_of_mem _ (List.mem_append_left _ (List.mem_append_right _ h))
theorem in_X5_behind_X5 : ∀ w ∈ wsX50, w ∈ wsX5_behind := fun _ h => List.mem_cons_of_mem _ (List.mem_append_right _ h)
theorem in_X8_roots_X8 : ∀ w ∈ wsX80, w ∈ wsX8_roots := fun _ h => List.mem_cons_of_mem _ (List.mem_append_left _ (List.mem_append_left _ (List.mem_append_left _ (List.mem_append_right _ h))))
theorem in_X8_roots_X5 : ∀ w ∈ wsX50, w ∈ wsX8_roots := fun _ h => List.mem_cons_of_mem _ (List.mem_append_left _ (List.mem_append_right _ h))
theorem in_X8_roots_X4 : ∀ w ∈ wsX40, w ∈ wsX8_roots := fun _ h => List.mem_cons_of_mem _ (List.mem_append_left _ (List.mem_append_left _ (List.mem_append_right _ h)))
theorem in_X2_need_X2 : ∀ w ∈ wsX20, w ∈ wsX2_need := fun _ h => List.mem_cons_of_mem _ (List.mem_append_left _ (List.mem_append_right _ h))
theorem in_X8_law_X8 : ∀ w ∈ wsX80, w ∈ wsX8_law := fun _ h => List.mem_cons_of_mem _ (List.mem_append_left _ (List.mem_append_left _ (List.mem_append_left _ (List.mem_append_left _ (List.mem_append_left _ (List.mem_append_right _ h))))))
theorem in_X8_law_X5 : ∀ w ∈ wsX50, w ∈ wsX8_law := fun _ h => List.mem_cons_of_mem _ (List.mem_append_left _ (List.mem_append_left _ (List.mem_append_left _ (List.mem_append_left _ (List.mem_append_right _ h)))))
theorem in_X8_law_X4 : ∀ w ∈ wsX40, w ∈ wsX8_law := fun _ h => List.mem_cons_of_mem _ (List.mem_append_left _ (List.mem_append_left _ (List.mem_append_left _ (List.mem_append_right _ h))))
theorem in_X8_worth_X8 : ∀ w ∈ wsX80, w ∈ wsX8_worth := fun _ h => List.mem_cons_of_mem _ (List.mem_append_left _ (List.mem_append_left _ (List.mem_append_left _ (List.mem_append_left _ (List.mem_append_left _ (List.mem_append_right _ h))))))
theorem in_X8_worth_X4 : ∀ w ∈ wsX40, w ∈ wsX8_worth := fun _ h => List.mem_cons_of_mem _ (List.mem_append_left _ (List.mem_append_left _ (List.mem_append_left _ (List.mem_append_left _ (List.mem_append_right _ h)))))
theorem in_X8_with_X8 : ∀ w ∈ wsX80, w ∈ wsX8_with := fun _ h => List.mem_cons_of_mem _ (List.mem_append_left _ (List.mem_append_left _ (List.mem_append_left _ (List.mem_append_left _ (List.mem_append_left _ (List.mem_append_right _ h))))))
set_option maxHeartbeats 4000000 in
set_option maxRecDepth 100000 in
theorem s_X8_endsUp_1 (l : Launch) (B0 : Nat) (adK adV : Nat → Nat) (D : va_G) (cy : Nat → ClassId) (ad : Nat → Nat) (fr0 : Nat → va_E) (tx : Int32) (rby : Int32) (rnx : Int32) (f : Nat → va_E) (hT : TYx ad cy fr0 tx rby rnx f) (p1 : Int32) (hp1 : 0 ≤ p1.toInt ∧ p1.toInt ≤ 9) (p2 : Int32) (hp2 : 0 ≤ p2.toInt ∧ p2.toInt ≤ 4095) (p4 : Int32) (hp4 : 0 ≤ p4.toInt ∧ p4.toInt ≤ 1) (sz : Nat) : TtI l yX8_endsUp wsX8_endsUp 7 171 [.ref (ad 0), .int p1, .int p2, .int 1, .int p4] B0 adK adV D cy ad f sz (fun (r : Int32) (g : Nat → va_E) => ((r = 1) ∨ (r = 0)) ∧ (TYx ad cy fr0 tx rby rnx g)) := by
  refine TtI.of (cc := cX8_endsUp) (maxL := 6) (ty := .boolean) (own := RX8) (by decide) rfl (Nat.le_of_ble_eq_true rfl) rfl ?_
  intro p e s m below meth c A ls hx hb hr hml hts hown hlk hK hE hP hD hS hA hAB hl
  have hl : lv_has ls 6 [(0, .ref (ad 0)), (1, .int p1), (2, .int p2), (3, .int 1), (4, .int p4)] := hl
  refine st0 (fun H locs hP hS => ?_) hP hS
  have j14 : ∀ (N : Nat) (f : Nat → va_E) (H : Heap) (locs : List Loc) (ls : Array Slot) (v14_l5 : Int32), (13 - v14_l5.toInt ≤ (N : Int)) → (-1 ≤ v14_l5.toInt ∧ v14_l5.toInt ≤ 12) → (0 ≤ p1.toInt ∧ p1.toInt ≤ 9) → (0 ≤ p2.toInt ∧ p2.toInt ≤ 4095) → (0 ≤ p4.toInt ∧ p4.toInt ≤ 1) → (TYx ad cy fr0 tx rby rnx f) → (va_P D vwCl (wl ad f) H) → (va_D A (wl ad f)) → (va_S A s.heap H locs) → (lv_has ls 6 [(5, .int v14_l5), (0, .ref (ad 0)), (1, .int p1), (2, .int p2), (3, .int 1), (4, .int p4)]) → W p l e (rmO 7 171 0 0) s m ([.ref (ad 0), .int p1, .int p2, .int 1, .int p4] : List Value).toArray below meth c H locs 0 0 (MQ below (va_Qi (fun (r : Int32) (g : Nat → va_E) => ((r = 1) ∨ (r = 0)) ∧ (TYx ad cy fr0 tx rby rnx g)) (fun g t => PstT D ad g t) A) ([.ref (ad 0), .int p1, .int p2, .int 1, .int p4] : List Value).toArray s 0 0 A) (F0 m 14 ls []) := by
    intro N
    induction N with
    | zero => intro f H locs ls v14_l5 hN hv14_l5 hv14_l1 hv14_l2 hv14_l4 hT hP hD hS hl; exact absurd hN (by omega)
    | succ N ih14 =>
      intro f H locs ls v14_l5 hN hv14_l5 hv14_l1 hv14_l2 hv14_l4 hT hP hD hS hl
      have j47 : ∀ (f : Nat → va_E) (H : Heap) (locs : List Loc) (ls : Array Slot) (v47_s2 : Int32) (v47_s4 : Int32), (-1 ≤ v14_l5.toInt ∧ v14_l5.toInt ≤ 11) → (0 ≤ p1.toInt ∧ p1.toInt ≤ 9) → (0 ≤ p2.toInt ∧ p2.toInt ≤ 4095) → (0 ≤ p4.toInt ∧ p4.toInt ≤ 1) → (0 ≤ p1.toInt ∧ p1.toInt ≤ 9) → (0 ≤ v47_s2.toInt ∧ v47_s2.toInt ≤ 4095) → (0 ≤ v47_s4.toInt ∧ v47_s4.toInt ≤ 1) → (TYx ad cy fr0 tx rby rnx f) → (va_P D vwCl (wl ad f) H) → (va_D A (wl ad f)) → (va_S A s.heap H locs) → (lv_has ls 6 [(5, .int v14_l5), (0, .ref (ad 0)), (1, .int p1), (2, .int p2), (3, .int 1), (4, .int p4)]) → W p l e (rmO 7 171 0 0) s m ([.ref (ad 0), .int p1, .int p2, .int 1, .int p4] : List Value).toArray below meth c H locs 0 0 (MQ below (va_Qi (fun (r : Int32) (g : Nat → va_E) => ((r = 1) ∨ (r = 0)) ∧ (TYx ad cy fr0 tx rby rnx g)) (fun g t => PstT D ad g t) A) ([.ref (ad 0), .int p1, .int p2, .int 1, .int p4] : List Value).toArray s 0 0 A) (F0 m 47 ls [.int v47_s4, .int 0, .int v47_s2, .int p1, .ref (ad 0)]) := by
        intro f H locs ls v47_s2 v47_s4 hv47_l5 hv47_l1 hv47_l2 hv47_l4 hv47_s1 hv47_s2 hv47_s4 hT hP hD hS hl
        have ttl_0 := tl_0
        obtain ⟨t1, x3, x4, e6, h2, h5⟩ := (show okX8 ad tx 0 (f 0) from hT.1 0 (by decide))
        refine tVI (As := [.int p1, .int v47_s2, .int 0, .int v47_s4]) (rest := []) (i := 0) ⟨hx, hb, hml, hown, hts⟩ hK hE hP hD hS hA hAB (s_X8_endsUp_0 l B0 adK adV D cy ad fr0 tx rby rnx f hT p1 (by omega) v47_s2 (by omega) v47_s4 (by omega) _) (cwV 4 hts gX8_endsUp_X8_endsUp rfl rfl rfl (by decide +kernel) ⟨Nat.le_of_ble_eq_true rfl, Nat.le_of_ble_eq_true rfl⟩) (by decide) 8 e6 rfl rfl hl.1 rfl (Nat.le_of_ble_eq_true rfl) dX8_endsUp_47 ⟨Nat.le_of_ble_eq_true rfl, Nat.le_of_ble_eq_true rfl⟩ (fun r f H locs hw hP hD hS => ?_)
        obtain ⟨hrs, hT⟩ := hw
        obtain ⟨x7, rfl⟩ : ∃ q, q = r := ⟨_, rfl⟩
        rcases hrs with rfl | rfl
        · refine lv_iload hx hb dX8_endsUp_50 (lv_at hl 5 rfl) ?_
          have ttl_1 := tl_1
          refine lv_icmp_ne (tgt := 58) hx hb dX8_endsUp_52 (by decide) (fun c8 => ?_) (fun c8 => ?_)
          · have kc8 := c_ne c8
            obtain ⟨x9, ex9⟩ : ∃ q : Int32, q = v14_l5 + Int32.ofInt (1) := ⟨_, rfl⟩
            refine lv_iinc (v := x9) (lv' := [(5, .int x9), (0, .ref (ad 0)), (1, .int p1), (2, .int p2), (3, .int 1), (4, .int p4)]) hx hb dX8_endsUp_58 hl (k := 0) rfl ex9.symm (by decide) rfl (fun ls hl => ?_)
            have hx9 := r_inc ex9 (by decide) (by omega) (by omega)
            refine lv_goto (tgt := 14) hx hb dX8_endsUp_61 (by decide) ?_
            exact ih14 f H locs ls x9 (by omega) (by omega) (by omega) (by omega) (by omega) hT hP hD hS (lv_sub hl [0, 1, 2, 3, 4, 5] rfl)
          · have kc8 := c_eq c8
            refine lv_iload hx hb dX8_endsUp_55 (lv_at hl 5 rfl) ?_
            exact tI hx hb hr hlk (nar01 (by omega)) hP hS ⟨(i01 (by omega)), hT⟩ dX8_endsUp_57
        · refine lv_iload hx hb dX8_endsUp_50 (lv_at hl 5 rfl) ?_
          refine lv_icmp_ne (tgt := 58) hx hb dX8_endsUp_52 (by decide) (fun c10 => ?_) (fun c10 => ?_)
          · have kc10 := c_ne c10
            obtain ⟨x11, ex11⟩ : ∃ q : Int32, q = v14_l5 + Int32.ofInt (1) := ⟨_, rfl⟩
            refine lv_iinc (v := x11) (lv' := [(5, .int x11), (0, .ref (ad 0)), (1, .int p1), (2, .int p2), (3, .int 1), (4, .int p4)]) hx hb dX8_endsUp_58 hl (k := 0) rfl ex11.symm (by decide) rfl (fun ls hl => ?_)
            have hx11 := r_inc ex11 (by decide) (by omega) (by omega)
            refine lv_goto (tgt := 14) hx hb dX8_endsUp_61 (by decide) ?_
            have ttl_1 := tl_1
            exact ih14 f H locs ls x11 (by omega) (by omega) (by omega) (by omega) (by omega) hT hP hD hS (lv_sub hl [0, 1, 2, 3, 4, 5] rfl)
          · have kc10 := c_eq c10
            refine lv_iload hx hb dX8_endsUp_55 (lv_at hl 5 rfl) ?_
            exact tI hx hb hr hlk (nar01 (by omega)) hP hS ⟨(i01 (by omega)), hT⟩ dX8_endsUp_57
      refine lv_iload hx hb dX8_endsUp_14 (lv_at hl 0 rfl) ?_
      refine lv_aload_n hx hb dX8_endsUp_16 rfl (lv_at hl 1 rfl) ?_
      obtain ⟨t12, x14, x15, e17, h13, h16⟩ := (show okX8 ad tx 0 (f 0) from hT.1 0 (by decide))
      refine va_get (D := D) (cl := vwCl) (ci := 8) (v := .ref (ad t12)) (C := RX8) (T := TX8) (N := 13) hx hb hts in_X8_endsUp_X8 hown hK hP 0 (wl_at (by decide) e17) rfl 1 (by decide) (hts (.fieldLink RX8 19 "EightReasons" "told" "LEightReasons$Suit;") (List.mem_of_getElem? (i := 1) rfl)) (fun _ h9 => h9) rfl dX8_endsUp_17 ?_
      obtain ⟨x18, x20, x21, x23, x24, e25, h19, h22⟩ := (ty_suit hT h13)
      refine va_get (D := D) (cl := vwCl) (ci := 5) (v := .int x21) (C := RX5) (T := TX5) (N := 12) hx hb hts in_X8_endsUp_X5 hown hK hP t12 (wl_at (x_lt (x_suit0 h13)) e25) rfl 2 (by decide) (hts (.fieldLink RX8 157 "EightReasons$Suit" "strands" "I") (List.mem_of_getElem? (i := 2) rfl)) (fun _ h9 => h9) rfl dX8_endsUp_20 ?_
      refine lv_icmp_ge (tgt := 64) hx hb dX8_endsUp_23 (by decide) (fun c26 => ?_) (fun c26 => ?_)
      · have kc26 := c_le c26
        refine lv_iload hx hb dX8_endsUp_64 (lv_at hl 5 rfl) ?_
        have ttl_0 := tl_0
        refine lv_if_ne (tgt := 73) hx hb dX8_endsUp_66 (by decide) (fun c27 => ?_) (fun c27 => ?_)
        · have kc27 := c_ne c27
          refine lv_iconst (v := 0) hx hb dX8_endsUp_73 (by decide) ?_
          exact tI hx hb hr hlk rfl hP hS ⟨(Or.inr rfl), hT⟩ dX8_endsUp_74
        · have kc27 := c_eq c27
          refine lv_iconst (v := 1) hx hb dX8_endsUp_69 (by decide) ?_
          refine lv_goto (tgt := 74) hx hb dX8_endsUp_70 (by decide) ?_
          have ttl_1 := tl_1
          exact tI hx hb hr hlk rfl hP hS ⟨(Or.inl rfl), hT⟩ dX8_endsUp_74
      · have kc26 := c_nle c26
        refine lv_aload_n hx hb dX8_endsUp_26 rfl (lv_at hl 1 rfl) ?_
        refine lv_iload_n hx hb dX8_endsUp_27 rfl (lv_at hl 2 rfl) ?_
        refine lv_iload_n hx hb dX8_endsUp_28 rfl (lv_at hl 3 rfl) ?_
        refine lv_iload hx hb dX8_endsUp_29 (lv_at hl 0 rfl) ?_
        refine tSI (As := [.int p2, .int v14_l5]) (rest := [.int p1, .ref (ad 0)]) ⟨hx, hb, hml, hown, hts⟩ hK hE hP hD hS hA hAB (s_X8_moved_0 l B0 adK adV D cy ad f p2 (by omega) v14_l5 (by omega) _) (va_cwS 2 hts gX8_endsUp_X8_moved rfl rfl rfl (by decide +kernel) ⟨Nat.le_of_ble_eq_true rfl, Nat.le_of_ble_eq_true rfl⟩) rfl hl.1 rfl (Nat.le_of_ble_eq_true rfl) dX8_endsUp_31 ⟨Nat.le_of_ble_eq_true rfl, Nat.le_of_ble_eq_true rfl⟩ (fun r g H locs hw hP hD hS => ?_)
        obtain ⟨hrs, rfl⟩ := hw
        obtain ⟨x28, rfl⟩ : ∃ q, q = r := ⟨_, rfl⟩
        have h29 := hrs
        refine lv_iload_n hx hb dX8_endsUp_34 rfl (lv_at hl 4 rfl) ?_
        refine lv_iconst (v := 1) hx hb dX8_endsUp_35 (by decide) ?_
        refine lv_isub hx hb dX8_endsUp_36 (tpi (v := 0) (by decide) ?_)
        refine lv_iload hx hb dX8_endsUp_37 (lv_at hl 5 rfl) ?_
        have ttl_0 := tl_0
        refine lv_if_ne (tgt := 46) hx hb dX8_endsUp_39 (by decide) (fun c30 => ?_) (fun c30 => ?_)
        · have kc30 := c_ne c30
          refine lv_iconst (v := 0) hx hb dX8_endsUp_46 (by decide) ?_
          have ttl_1 := tl_1
          exact j47 f H locs ls x28 (0 : Int32) (by omega) (by omega) (by omega) (by omega) (by omega) (by omega) (by omega) hT hP hD hS (lv_sub hl [0, 1, 2, 3, 4, 5] rfl)
        · have kc30 := c_eq c30
          refine lv_iconst (v := 1) hx hb dX8_endsUp_42 (by decide) ?_
          refine lv_goto (tgt := 47) hx hb dX8_endsUp_43 (by decide) ?_
          have ttl_1 := tl_1
          exact j47 f H locs ls x28 (1 : Int32) (by omega) (by omega) (by omega) (by omega) (by omega) (by omega) (by omega) hT hP hD hS (lv_sub hl [0, 1, 2, 3, 4, 5] rfl)
  refine lv_iload_n hx hb dX8_endsUp_0 rfl (lv_at hl 3 rfl) ?_
  refine lv_if_gt (tgt := 11) hx hb dX8_endsUp_1 (by decide) (fun _ => ?_) (fun c => absurd (by decide) c)
  refine lv_iconst (v := (-1)) hx hb dX8_endsUp_11 (by decide) ?_
  refine lv_istore (lv' := [(5, .int (-1)), (0, .ref (ad 0)), (1, .int p1), (2, .int p2), (3, .int 1), (4, .int p4)]) hx hb dX8_endsUp_12 hl (by decide) rfl (fun ls hl => ?_)
  have ttl_m1 := tl_m1
  have ttl_1 := tl_1
  exact j14 (Int.toNat (13 - ((-1) : Int32).toInt)) f H locs ls ((-1) : Int32) (by omega) (by omega) (by omega) (by omega) (by omega) hT hP hD hS (lv_sub hl [0, 1, 2, 3, 4, 5] rfl)
set_option maxHeartbeats 4000000 in
set_option maxRecDepth 100000 in
theorem s_X8_endsUp_2 (l : Launch) (B0 : Nat) (adK adV : Nat → Nat) (D : va_G) (cy : Nat → ClassId) (ad : Nat → Nat) (fr0 : Nat → va_E) (tx : Int32) (rby : Int32) (rnx : Int32) (f : Nat → va_E) (hT : TYx ad cy fr0 tx rby rnx f) (p1 : Int32) (hp1 : 0 ≤ p1.toInt ∧ p1.toInt ≤ 9) (p2 : Int32) (hp2 : 0 ≤ p2.toInt ∧ p2.toInt ≤ 4095) (p4 : Int32) (hp4 : 1 ≤ p4.toInt ∧ p4.toInt ≤ 1) (sz : Nat) : TtI l yX8_endsUp wsX8_endsUp 8 196 [.ref (ad 0), .int p1, .int p2, .int 2, .int p4] B0 adK adV D cy ad f sz (fun (r : Int32) (g : Nat → va_E) => ((r = 1) ∨ (r = 0)) ∧ (TYx ad cy fr0 tx rby rnx g)) := by
  refine TtI.of (cc := cX8_endsUp) (maxL := 6) (ty := .boolean) (own := RX8) (by decide) rfl (Nat.le_of_ble_eq_true rfl) rfl ?_
  intro p e s m below meth c A ls hx hb hr hml hts hown hlk hK hE hP hD hS hA hAB hl
  have hl : lv_has ls 6 [(0, .ref (ad 0)), (1, .int p1), (2, .int p2), (3, .int 2), (4, .int p4)] := hl
  refine st0 (fun H locs hP hS => ?_) hP hS
  have j14 : ∀ (N : Nat) (f : Nat → va_E) (H : Heap) (locs : List Loc) (ls : Array Slot) (v14_l5 : Int32), (13 - v14_l5.toInt ≤ (N : Int)) → (-1 ≤ v14_l5.toInt ∧ v14_l5.toInt ≤ 12) → (0 ≤ p1.toInt ∧ p1.toInt ≤ 9) → (0 ≤ p2.toInt ∧ p2.toInt ≤ 4095) → (1 ≤ p4.toInt ∧ p4.toInt ≤ 1) → (TYx ad cy fr0 tx rby rnx f) → (va_P D vwCl (wl ad f) H) → (va_D A (wl ad f)) → (va_S A s.heap H locs) → (lv_has ls 6 [(5, .int v14_l5), (0, .ref (ad 0)), (1, .int p1), (2, .int p2), (3, .int 2), (4, .int p4)]) → W p l e (rmO 8 196 0 0) s m ([.ref (ad 0), .int p1, .int p2, .int 2, .int p4] : List Value).toArray below meth c H locs 0 0 (MQ below (va_Qi (fun (r : Int32) (g : Nat → va_E) => ((r = 1) ∨ (r = 0)) ∧ (TYx ad cy fr0 tx rby rnx g)) (fun g t => PstT D ad g t) A) ([.ref (ad 0), .int p1, .int p2, .int 2, .int p4] : List Value).toArray s 0 0 A) (F0 m 14 ls []) := by
    intro N
    induction N with
    | zero => intro f H locs ls v14_l5 hN hv14_l5 hv14_l1 hv14_l2 hv14_l4 hT hP hD hS hl; exact absurd hN (by omega)
    | succ N ih14 =>
      intro f H locs ls v14_l5 hN hv14_l5 hv14_l1 hv14_l2 hv14_l4 hT hP hD hS hl
      have j47 : ∀ (f : Nat → va_E) (H : Heap) (locs : List Loc) (ls : Array Slot) (v47_s2 : Int32), (-1 ≤ v14_l5.toInt ∧ v14_l5.toInt ≤ 11) → (0 ≤ p1.toInt ∧ p1.toInt ≤ 9) → (0 ≤ p2.toInt ∧ p2.toInt ≤ 4095) → (1 ≤ p4.toInt ∧ p4.toInt ≤ 1) → (0 ≤ p1.toInt ∧ p1.toInt ≤ 9) → (0 ≤ v47_s2.toInt ∧ v47_s2.toInt ≤ 4095) → (TYx ad cy fr0 tx rby rnx f) → (va_P D vwCl (wl ad f) H) → (va_D A (wl ad f)) → (va_S A s.heap H locs) → (lv_has ls 6 [(5, .int v14_l5), (0, .ref (ad 0)), (1, .int p1), (2, .int p2), (3, .int 2), (4, .int p4)]) → W p l e (rmO 8 196 0 0) s m ([.ref (ad 0), .int p1, .int p2, .int 2, .int p4] : List Value).toArray below meth c H locs 0 0 (MQ below (va_Qi (fun (r : Int32) (g : Nat → va_E) => ((r = 1) ∨ (r = 0)) ∧ (TYx ad cy fr0 tx rby rnx g)) (fun g t => PstT D ad g t) A) ([.ref (ad 0), .int p1, .int p2, .int 2, .int p4] : List Value).toArray s 0 0 A) (F0 m 47 ls [.int 0, .int 1, .int v47_s2, .int p1, .ref (ad 0)]) := by
        intro f H locs ls v47_s2 hv47_l5 hv47_l1 hv47_l2 hv47_l4 hv47_s1 hv47_s2 hT hP hD hS hl
        have ttl_1 := tl_1
        have ttl_0 := tl_0
        obtain ⟨t1, x3, x4, e6, h2, h5⟩ := (show okX8 ad tx 0 (f 0) from hT.1 0 (by decide))
        refine tVI (As := [.int p1, .int v47_s2, .int 1, .int 0]) (rest := []) (i := 0) ⟨hx, hb, hml, hown, hts⟩ hK hE hP hD hS hA hAB (s_X8_endsUp_1 l B0 adK adV D cy ad fr0 tx rby rnx f hT p1 (by omega) v47_s2 (by omega) (0 : Int32) (by omega) _) (cwV 4 hts gX8_endsUp_X8_endsUp rfl rfl rfl (by decide +kernel) ⟨Nat.le_of_ble_eq_true rfl, Nat.le_of_ble_eq_true rfl⟩) (by decide) 8 e6 rfl rfl hl.1 rfl (Nat.le_of_ble_eq_true rfl) dX8_endsUp_47 ⟨Nat.le_of_ble_eq_true rfl, Nat.le_of_ble_eq_true rfl⟩ (fun r f H locs hw hP hD hS => ?_)
        obtain ⟨hrs, hT⟩ := hw
        obtain ⟨x7, rfl⟩ : ∃ q, q = r := ⟨_, rfl⟩
        rcases hrs with rfl | rfl
        · refine lv_iload hx hb dX8_endsUp_50 (lv_at hl 5 rfl) ?_
          refine lv_icmp_ne (tgt := 58) hx hb dX8_endsUp_52 (by decide) (fun c8 => ?_) (fun c8 => ?_)
          · have kc8 := c_ne c8
            exact absurd kc8 (by omega)
          · have kc8 := c_eq c8
            refine lv_iload hx hb dX8_endsUp_55 (lv_at hl 5 rfl) ?_
            exact tI hx hb hr hlk (nar01 (by omega)) hP hS ⟨(i01 (by omega)), hT⟩ dX8_endsUp_57
        · refine lv_iload hx hb dX8_endsUp_50 (lv_at hl 5 rfl) ?_
          refine lv_icmp_ne (tgt := 58) hx hb dX8_endsUp_52 (by decide) (fun c9 => ?_) (fun c9 => ?_)
          · have kc9 := c_ne c9
            obtain ⟨x10, ex10⟩ : ∃ q : Int32, q = v14_l5 + Int32.ofInt (1) := ⟨_, rfl⟩
            refine lv_iinc (v := x10) (lv' := [(5, .int x10), (0, .ref (ad 0)), (1, .int p1), (2, .int p2), (3, .int 2), (4, .int p4)]) hx hb dX8_endsUp_58 hl (k := 0) rfl ex10.symm (by decide) rfl (fun ls hl => ?_)
            have hx10 := r_inc ex10 (by decide) (by omega) (by omega)
            refine lv_goto (tgt := 14) hx hb dX8_endsUp_61 (by decide) ?_
            have ttl_2 := tl_2
            exact ih14 f H locs ls x10 (by omega) (by omega) (by omega) (by omega) (by omega) hT hP hD hS (lv_sub hl [0, 1, 2, 3, 4, 5] rfl)
          · have kc9 := c_eq c9
            exact absurd kc9 (by omega)
      refine lv_iload hx hb dX8_endsUp_14 (lv_at hl 0 rfl) ?_
      refine lv_aload_n hx hb dX8_endsUp_16 rfl (lv_at hl 1 rfl) ?_
      obtain ⟨t11, x13, x14, e16, h12, h15⟩ := (show okX8 ad tx 0 (f 0) from hT.1 0 (by decide))
      refine va_get (D := D) (cl := vwCl) (ci := 8) (v := .ref (ad t11)) (C := RX8) (T := TX8) (N := 13) hx hb hts in_X8_endsUp_X8 hown hK hP 0 (wl_at (by decide) e16) rfl 1 (by decide) (hts (.fieldLink RX8 19 "EightReasons" "told" "LEightReasons$Suit;") (List.mem_of_getElem? (i := 1) rfl)) (fun _ h9 => h9) rfl dX8_endsUp_17 ?_
      obtain ⟨x17, x19, x20, x22, x23, e24, h18, h21⟩ := (ty_suit hT h12)
      refine va_get (D := D) (cl := vwCl) (ci := 5) (v := .int x20) (C := RX5) (T := TX5) (N := 12) hx hb hts in_X8_endsUp_X5 hown hK hP t11 (wl_at (x_lt (x_suit0 h12)) e24) rfl 2 (by decide) (hts (.fieldLink RX8 157 "EightReasons$Suit" "strands" "I") (List.mem_of_getElem? (i := 2) rfl)) (fun _ h9 => h9) rfl dX8_endsUp_20 ?_
      refine lv_icmp_ge (tgt := 64) hx hb dX8_endsUp_23 (by decide) (fun c25 => ?_) (fun c25 => ?_)
      · have kc25 := c_le c25
        refine lv_iload hx hb dX8_endsUp_64 (lv_at hl 5 rfl) ?_
        have ttl_0 := tl_0
        refine lv_if_ne (tgt := 73) hx hb dX8_endsUp_66 (by decide) (fun c26 => ?_) (fun c26 => ?_)
        · have kc26 := c_ne c26
          refine lv_iconst (v := 0) hx hb dX8_endsUp_73 (by decide) ?_
          exact tI hx hb hr hlk rfl hP hS ⟨(Or.inr rfl), hT⟩ dX8_endsUp_74
        · have kc26 := c_eq c26
          exact absurd kc26 (by omega)
      · have kc25 := c_nle c25
        refine lv_aload_n hx hb dX8_endsUp_26 rfl (lv_at hl 1 rfl) ?_
        refine lv_iload_n hx hb dX8_endsUp_27 rfl (lv_at hl 2 rfl) ?_
        refine lv_iload_n hx hb dX8_endsUp_28 rfl (lv_at hl 3 rfl) ?_
        refine lv_iload hx hb dX8_endsUp_29 (lv_at hl 0 rfl) ?_
        refine tSI (As := [.int p2, .int v14_l5]) (rest := [.int p1, .ref (ad 0)]) ⟨hx, hb, hml, hown, hts⟩ hK hE hP hD hS hA hAB (s_X8_moved_0 l B0 adK adV D cy ad f p2 (by omega) v14_l5 (by omega) _) (va_cwS 2 hts gX8_endsUp_X8_moved rfl rfl rfl (by decide +kernel) ⟨Nat.le_of_ble_eq_true rfl, Nat.le_of_ble_eq_true rfl⟩) rfl hl.1 rfl (Nat.le_of_ble_eq_true rfl) dX8_endsUp_31 ⟨Nat.le_of_ble_eq_true rfl, Nat.le_of_ble_eq_true rfl⟩ (fun r g H locs hw hP hD hS => ?_)
        obtain ⟨hrs, rfl⟩ := hw
        obtain ⟨x27, rfl⟩ : ∃ q, q = r := ⟨_, rfl⟩
        have h28 := hrs
        refine lv_iload_n hx hb dX8_endsUp_34 rfl (lv_at hl 4 rfl) ?_
        refine lv_iconst (v := 1) hx hb dX8_endsUp_35 (by decide) ?_
        refine lv_isub hx hb dX8_endsUp_36 (tpi (v := 1) (by decide) ?_)
        refine lv_iload hx hb dX8_endsUp_37 (lv_at hl 5 rfl) ?_
        have ttl_0 := tl_0
        refine lv_if_ne (tgt := 46) hx hb dX8_endsUp_39 (by decide) (fun c29 => ?_) (fun c29 => ?_)
        · have kc29 := c_ne c29
          refine lv_iconst (v := 0) hx hb dX8_endsUp_46 (by decide) ?_
          have ttl_2 := tl_2
          have ttl_1 := tl_1
          exact j47 f H locs ls x27 (by omega) (by omega) (by omega) (by omega) (by omega) (by omega) hT hP hD hS (lv_sub hl [0, 1, 2, 3, 4, 5] rfl)
        · have kc29 := c_eq c29
          exact absurd kc29 (by omega)
  refine lv_iload_n hx hb dX8_endsUp_0 rfl (lv_at hl 3 rfl) ?_
  refine lv_if_gt (tgt := 11) hx hb dX8_endsUp_1 (by decide) (fun _ => ?_) (fun c => absurd (by decide) c)
  refine lv_iconst (v := (-1)) hx hb dX8_endsUp_11 (by decide) ?_
  refine lv_istore (lv' := [(5, .int (-1)), (0, .ref (ad 0)), (1, .int p1), (2, .int p2), (3, .int 2), (4, .int p4)]) hx hb dX8_endsUp_12 hl (by decide) rfl (fun ls hl => ?_)
  have ttl_m1 := tl_m1
  have ttl_2 := tl_2
  exact j14 (Int.toNat (13 - ((-1) : Int32).toInt)) f H locs ls ((-1) : Int32) (by omega) (by omega) (by omega) (by omega) (by omega) hT hP hD hS (lv_sub hl [0, 1, 2, 3, 4, 5] rfl)
set_option maxHeartbeats 4000000 in
set_option maxRecDepth 100000 in
theorem s_X8_moot_0 (l : Launch) (B0 : Nat) (adK adV : Nat → Nat) (D : va_G) (cy : Nat → ClassId) (ad : Nat → Nat) (fr0 : Nat → va_E) (tx : Int32) (rby : Int32) (rnx : Int32) (f : Nat → va_E) (hT : TYx ad cy fr0 tx rby rnx f) (p1 : Int32) (p2 : Int32) (p3 : Int32) (sz : Nat) : TtI l yX8_moot wsX8_moot 9 221 [.ref (ad 0), .int p1, .int p2, .int p3] B0 adK adV D cy ad f sz (fun (r : Int32) (g : Nat → va_E) => (-2 ≤ r.toInt ∧ r.toInt ≤ 11) ∧ (TYx ad cy fr0 tx rby rnx g)) := by
  refine TtI.of (cc := cX8_moot) (maxL := 5) (ty := .int) (own := RX8) (by decide) rfl (Nat.le_of_ble_eq_true rfl) rfl ?_
  intro p e s m below meth c A ls hx hb hr hml hts hown hlk hK hE hP hD hS hA hAB hl
  have hl : lv_has ls 5 [(0, .ref (ad 0)), (1, .int p1), (2, .int p2), (3, .int p3)] := hl
  refine st0 (fun H locs hP hS => ?_) hP hS
  have j38 : ∀ (N : Nat) (f : Nat → va_E) (H : Heap) (locs : List Loc) (ls : Array Slot) (v38_l4 : Int32), (13 - v38_l4.toInt ≤ (N : Int)) → (-1 ≤ v38_l4.toInt ∧ v38_l4.toInt ≤ 12) → (0 ≤ p1.toInt ∧ p1.toInt ≤ 9) → (1 ≤ p2.toInt ∧ p2.toInt ≤ 3) → (0 ≤ p3.toInt ∧ p3.toInt ≤ 1) → (TYx ad cy fr0 tx rby rnx f) → (va_P D vwCl (wl ad f) H) → (va_D A (wl ad f)) → (va_S A s.heap H locs) → (lv_has ls 5 [(4, .int v38_l4), (0, .ref (ad 0)), (1, .int p1), (2, .int p2), (3, .int p3)]) → W p l e (rmO 9 221 0 0) s m ([.ref (ad 0), .int p1, .int p2, .int p3] : List Value).toArray below meth c H locs 0 0 (MQ below (va_Qi (fun (r : Int32) (g : Nat → va_E) => (-2 ≤ r.toInt ∧ r.toInt ≤ 11) ∧ (TYx ad cy fr0 tx rby rnx g)) (fun g t => PstT D ad g t) A) ([.ref (ad 0), .int p1, .int p2, .int p3] : List Value).toArray s 0 0 A) (F0 m 38 ls []) := by
    intro N
    induction N with
    | zero => intro f H locs ls v38_l4 hN hv38_l4 hv38_l1 hv38_l2 hv38_l3 hT hP hD hS hl; exact absurd hN (by omega)
    | succ N ih38 =>
      intro f H locs ls v38_l4 hN hv38_l4 hv38_l1 hv38_l2 hv38_l3 hT hP hD hS hl
      refine lv_iload hx hb dX8_moot_38 (lv_at hl 0 rfl) ?_
      refine lv_aload_n hx hb dX8_moot_40 rfl (lv_at hl 1 rfl) ?_
      obtain ⟨t1, x3, x4, e6, h2, h5⟩ := (show okX8 ad tx 0 (f 0) from hT.1 0 (by decide))
      refine va_get (D := D) (cl := vwCl) (ci := 8) (v := .ref (ad t1)) (C := RX8) (T := TX8) (N := 13) hx hb hts in_X8_moot_X8 hown hK hP 0 (wl_at (by decide) e6) rfl 1 (by decide) (hts (.fieldLink RX8 19 "EightReasons" "told" "LEightReasons$Suit;") (List.mem_of_getElem? (i := 1) rfl)) (fun _ h9 => h9) rfl dX8_moot_41 ?_
      obtain ⟨x7, x9, x10, x12, x13, e14, h8, h11⟩ := (ty_suit hT h2)
      refine va_get (D := D) (cl := vwCl) (ci := 5) (v := .int x10) (C := RX5) (T := TX5) (N := 12) hx hb hts in_X8_moot_X5 hown hK hP t1 (wl_at (x_lt (x_suit0 h2)) e14) rfl 2 (by decide) (hts (.fieldLink RX8 157 "EightReasons$Suit" "strands" "I") (List.mem_of_getElem? (i := 2) rfl)) (fun _ h9 => h9) rfl dX8_moot_44 ?_
      refine lv_icmp_ge (tgt := 91) hx hb dX8_moot_47 (by decide) (fun c15 => ?_) (fun c15 => ?_)
      · have kc15 := c_le c15
        refine lv_iload_n hx hb dX8_moot_91 rfl (lv_at hl 4 rfl) ?_
        have ttl_0 := tl_0
        refine lv_if_ne (tgt := 99) hx hb dX8_moot_92 (by decide) (fun c16 => ?_) (fun c16 => ?_)
        · have kc16 := c_ne c16
          refine lv_iconst (v := (-1)) hx hb dX8_moot_99 (by decide) ?_
          have ttl_m1 := tl_m1
          exact tI hx hb hr hlk rfl hP hS ⟨(by omega), hT⟩ dX8_moot_100
        · have kc16 := c_eq c16
          refine lv_iconst (v := 1) hx hb dX8_moot_95 (by decide) ?_
          refine lv_goto (tgt := 100) hx hb dX8_moot_96 (by decide) ?_
          have ttl_1 := tl_1
          exact tI hx hb hr hlk rfl hP hS ⟨(by omega), hT⟩ dX8_moot_100
      · have kc15 := c_nle c15
        refine lv_aload_n hx hb dX8_moot_50 rfl (lv_at hl 1 rfl) ?_
        refine lv_iload_n hx hb dX8_moot_51 rfl (lv_at hl 2 rfl) ?_
        refine lv_aload_n hx hb dX8_moot_52 rfl (lv_at hl 1 rfl) ?_
        refine tVR (As := []) (rest := [.int p1, .ref (ad 0)]) (i := 0) ⟨hx, hb, hml, hown, hts⟩ hK hE hP hD hS hA hAB (s_X8_now_0 l B0 adK adV D cy ad fr0 tx rby rnx f hT _) (cwV 0 hts gX8_moot_X8_now rfl rfl rfl (by decide +kernel) ⟨Nat.le_of_ble_eq_true rfl, Nat.le_of_ble_eq_true rfl⟩) (by decide) 8 e6 rfl rfl hl.1 rfl (Nat.le_of_ble_eq_true rfl) dX8_moot_53 ⟨Nat.le_of_ble_eq_true rfl, Nat.le_of_ble_eq_true rfl⟩ (fun ra g H locs hw hra hP hD hS => ?_)
        obtain ⟨hrs, rfl⟩ := hw
        obtain ⟨t17, h18, rfl⟩ := hra
        obtain ⟨x19, x21, x22, x23, e24, h20⟩ := (ty_state hT h18)
        refine va_get (D := D) (cl := vwCl) (ci := 4) (v := .int x19) (C := RX4) (T := TX4) (N := 5) hx hb hts in_X8_moot_X4 hown hK hP t17 (wl_at (x_lt (x_state0 h18)) e24) rfl 1 (by decide) (hts (.fieldLink RX8 145 "EightReasons$State" "tied" "I") (List.mem_of_getElem? (i := 3) rfl)) (fun _ h9 => h9) rfl dX8_moot_56 ?_
        refine lv_iload hx hb dX8_moot_59 (lv_at hl 0 rfl) ?_
        refine tSI (As := [.int x19, .int v38_l4]) (rest := [.int p1, .ref (ad 0)]) ⟨hx, hb, hml, hown, hts⟩ hK hE hP hD hS hA hAB (s_X8_moved_0 l B0 adK adV D cy ad f x19 (by omega) v38_l4 (by omega) _) (va_cwS 2 hts gX8_moot_X8_moved rfl rfl rfl (by decide +kernel) ⟨Nat.le_of_ble_eq_true rfl, Nat.le_of_ble_eq_true rfl⟩) rfl hl.1 rfl (Nat.le_of_ble_eq_true rfl) dX8_moot_61 ⟨Nat.le_of_ble_eq_true rfl, Nat.le_of_ble_eq_true rfl⟩ (fun r g H locs hw hP hD hS => ?_)
        obtain ⟨hrs, rfl⟩ := hw
        obtain ⟨x25, rfl⟩ : ∃ q, q = r := ⟨_, rfl⟩
        have h26 := hrs
        refine lv_iload_n hx hb dX8_moot_64 rfl (lv_at hl 3 rfl) ?_
        refine lv_iconst (v := 1) hx hb dX8_moot_65 (by decide) ?_
        have ttl_1 := tl_1
        refine lv_isub hx hb dX8_moot_66 ?_
        refine lv_topi (fun x27 ex27 => ?_)
        have hx27 := r_sub ex27 (by omega) (by omega)
        refine lv_iconst (v := 1) hx hb dX8_moot_67 (by decide) ?_
        rcases sp_0_2 (x := x27) (by omega) with rfl | rfl | rfl
        · have ttl_0 := tl_0
          refine tVI (As := [.int p1, .int x25, .int 0, .int 1]) (rest := []) (i := 0) ⟨hx, hb, hml, hown, hts⟩ hK hE hP hD hS hA hAB (s_X8_endsUp_0 l B0 adK adV D cy ad fr0 tx rby rnx f hT p1 (by omega) x25 (by omega) (1 : Int32) (by omega) _) (cwV 4 hts gX8_moot_X8_endsUp rfl rfl rfl (by decide +kernel) ⟨Nat.le_of_ble_eq_true rfl, Nat.le_of_ble_eq_true rfl⟩) (by decide) 8 e6 rfl rfl hl.1 rfl (Nat.le_of_ble_eq_true rfl) dX8_moot_68 ⟨Nat.le_of_ble_eq_true rfl, Nat.le_of_ble_eq_true rfl⟩ (fun r f H locs hw hP hD hS => ?_)
          obtain ⟨hrs, hT⟩ := hw
          obtain ⟨x28, rfl⟩ : ∃ q, q = r := ⟨_, rfl⟩
          rcases hrs with rfl | rfl
          · refine lv_if_ne (tgt := 85) hx hb dX8_moot_71 (by decide) (fun _ => ?_) (fun c => absurd c (by decide))
            obtain ⟨x29, ex29⟩ : ∃ q : Int32, q = v38_l4 + Int32.ofInt (1) := ⟨_, rfl⟩
            refine lv_iinc (v := x29) (lv' := [(4, .int x29), (0, .ref (ad 0)), (1, .int p1), (2, .int p2), (3, .int p3)]) hx hb dX8_moot_85 hl (k := 0) rfl ex29.symm (by decide) rfl (fun ls hl => ?_)
            have hx29 := r_inc ex29 (by decide) (by omega) (by omega)
            refine lv_goto (tgt := 38) hx hb dX8_moot_88 (by decide) ?_
            exact ih38 f H locs ls x29 (by omega) (by omega) (by omega) (by omega) (by omega) hT hP hD hS (lv_sub hl [0, 1, 2, 3, 4] rfl)
          · refine lv_if_ne (tgt := 85) hx hb dX8_moot_71 (by decide) (fun c => absurd (by decide) c) (fun _ => ?_)
            refine lv_iload_n hx hb dX8_moot_74 rfl (lv_at hl 4 rfl) ?_
            refine lv_if_ne (tgt := 82) hx hb dX8_moot_75 (by decide) (fun c30 => ?_) (fun c30 => ?_)
            · have kc30 := c_ne c30
              refine lv_iload hx hb dX8_moot_82 (lv_at hl 0 rfl) ?_
              exact tI hx hb hr hlk rfl hP hS ⟨(by omega), hT⟩ dX8_moot_84
            · have kc30 := c_eq c30
              refine lv_iconst (v := 0) hx hb dX8_moot_78 (by decide) ?_
              refine lv_goto (tgt := 84) hx hb dX8_moot_79 (by decide) ?_
              exact tI hx hb hr hlk rfl hP hS ⟨(by omega), hT⟩ dX8_moot_84
        · refine tVI (As := [.int p1, .int x25, .int 1, .int 1]) (rest := []) (i := 0) ⟨hx, hb, hml, hown, hts⟩ hK hE hP hD hS hA hAB (s_X8_endsUp_1 l B0 adK adV D cy ad fr0 tx rby rnx f hT p1 (by omega) x25 (by omega) (1 : Int32) (by omega) _) (cwV 4 hts gX8_moot_X8_endsUp rfl rfl rfl (by decide +kernel) ⟨Nat.le_of_ble_eq_true rfl, Nat.le_of_ble_eq_true rfl⟩) (by decide) 8 e6 rfl rfl hl.1 rfl (Nat.le_of_ble_eq_true rfl) dX8_moot_68 ⟨Nat.le_of_ble_eq_true rfl, Nat.le_of_ble_eq_true rfl⟩ (fun r f H locs hw hP hD hS => ?_)
          obtain ⟨hrs, hT⟩ := hw
          obtain ⟨x31, rfl⟩ : ∃ q, q = r := ⟨_, rfl⟩
          rcases hrs with rfl | rfl
          · refine lv_if_ne (tgt := 85) hx hb dX8_moot_71 (by decide) (fun _ => ?_) (fun c => absurd c (by decide))
            obtain ⟨x32, ex32⟩ : ∃ q : Int32, q = v38_l4 + Int32.ofInt (1) := ⟨_, rfl⟩
            refine lv_iinc (v := x32) (lv' := [(4, .int x32), (0, .ref (ad 0)), (1, .int p1), (2, .int p2), (3, .int p3)]) hx hb dX8_moot_85 hl (k := 0) rfl ex32.symm (by decide) rfl (fun ls hl => ?_)
            have hx32 := r_inc ex32 (by decide) (by omega) (by omega)
            refine lv_goto (tgt := 38) hx hb dX8_moot_88 (by decide) ?_
            exact ih38 f H locs ls x32 (by omega) (by omega) (by omega) (by omega) (by omega) hT hP hD hS (lv_sub hl [0, 1, 2, 3, 4] rfl)
          · refine lv_if_ne (tgt := 85) hx hb dX8_moot_71 (by decide) (fun c => absurd (by decide) c) (fun _ => ?_)
            refine lv_iload_n hx hb dX8_moot_74 rfl (lv_at hl 4 rfl) ?_
            have ttl_0 := tl_0
            refine lv_if_ne (tgt := 82) hx hb dX8_moot_75 (by decide) (fun c33 => ?_) (fun c33 => ?_)
            · have kc33 := c_ne c33
              refine lv_iload hx hb dX8_moot_82 (lv_at hl 0 rfl) ?_
              exact tI hx hb hr hlk rfl hP hS ⟨(by omega), hT⟩ dX8_moot_84
            · have kc33 := c_eq c33
              refine lv_iconst (v := 0) hx hb dX8_moot_78 (by decide) ?_
              refine lv_goto (tgt := 84) hx hb dX8_moot_79 (by decide) ?_
              exact tI hx hb hr hlk rfl hP hS ⟨(by omega), hT⟩ dX8_moot_84
        · have ttl_2 := tl_2
          refine tVI (As := [.int p1, .int x25, .int 2, .int 1]) (rest := []) (i := 0) ⟨hx, hb, hml, hown, hts⟩ hK hE hP hD hS hA hAB (s_X8_endsUp_2 l B0 adK adV D cy ad fr0 tx rby rnx f hT p1 (by omega) x25 (by omega) (1 : Int32) (by omega) _) (cwV 4 hts gX8_moot_X8_endsUp rfl rfl rfl (by decide +kernel) ⟨Nat.le_of_ble_eq_true rfl, Nat.le_of_ble_eq_true rfl⟩) (by decide) 8 e6 rfl rfl hl.1 rfl (Nat.le_of_ble_eq_true rfl) dX8_moot_68 ⟨Nat.le_of_ble_eq_true rfl, Nat.le_of_ble_eq_true rfl⟩ (fun r f H locs hw hP hD hS => ?_)
          obtain ⟨hrs, hT⟩ := hw
          obtain ⟨x34, rfl⟩ : ∃ q, q = r := ⟨_, rfl⟩
          rcases hrs with rfl | rfl
          · refine lv_if_ne (tgt := 85) hx hb dX8_moot_71 (by decide) (fun _ => ?_) (fun c => absurd c (by decide))
            obtain ⟨x35, ex35⟩ : ∃ q : Int32, q = v38_l4 + Int32.ofInt (1) := ⟨_, rfl⟩
            refine lv_iinc (v := x35) (lv' := [(4, .int x35), (0, .ref (ad 0)), (1, .int p1), (2, .int p2), (3, .int p3)]) hx hb dX8_moot_85 hl (k := 0) rfl ex35.symm (by decide) rfl (fun ls hl => ?_)
            have hx35 := r_inc ex35 (by decide) (by omega) (by omega)
            refine lv_goto (tgt := 38) hx hb dX8_moot_88 (by decide) ?_
            exact ih38 f H locs ls x35 (by omega) (by omega) (by omega) (by omega) (by omega) hT hP hD hS (lv_sub hl [0, 1, 2, 3, 4] rfl)
          · refine lv_if_ne (tgt := 85) hx hb dX8_moot_71 (by decide) (fun c => absurd (by decide) c) (fun _ => ?_)
            refine lv_iload_n hx hb dX8_moot_74 rfl (lv_at hl 4 rfl) ?_
            have ttl_0 := tl_0
            refine lv_if_ne (tgt := 82) hx hb dX8_moot_75 (by decide) (fun c36 => ?_) (fun c36 => ?_)
            · have kc36 := c_ne c36
              refine lv_iload hx hb dX8_moot_82 (lv_at hl 0 rfl) ?_
              exact tI hx hb hr hlk rfl hP hS ⟨(by omega), hT⟩ dX8_moot_84
            · have kc36 := c_eq c36
              refine lv_iconst (v := 0) hx hb dX8_moot_78 (by decide) ?_
              refine lv_goto (tgt := 84) hx hb dX8_moot_79 (by decide) ?_
              exact tI hx hb hr hlk rfl hP hS ⟨(by omega), hT⟩ dX8_moot_84
  refine lv_aload_n hx hb dX8_moot_0 rfl (lv_at hl 0 rfl) ?_
  obtain ⟨t37, x39, x40, e42, h38, h41⟩ := (show okX8 ad tx 0 (f 0) from hT.1 0 (by decide))
  refine va_get (D := D) (cl := vwCl) (ci := 8) (v := .ref (ad t37)) (C := RX8) (T := TX8) (N := 13) hx hb hts in_X8_moot_X8 hown hK hP 0 (wl_at (by decide) e42) rfl 1 (by decide) (hts (.fieldLink RX8 19 "EightReasons" "told" "LEightReasons$Suit;") (List.mem_of_getElem? (i := 1) rfl)) (fun _ h9 => h9) rfl dX8_moot_1 ?_
  refine lv_iload_n hx hb dX8_moot_4 rfl (lv_at hl 1 rfl) ?_
  obtain ⟨x43, x45, x46, x48, x49, e50, h44, h47⟩ := (ty_suit hT h38)
  refine tVI (As := [.int p1]) (rest := []) (i := t37) ⟨hx, hb, hml, hown, hts⟩ hK hE hP hD hS hA hAB (s_X5_isClaim_0 l B0 adK adV D cy ad fr0 tx rby rnx f hT t37 h38 p1 _) (cwV 1 hts gX8_moot_X5_isClaim rfl rfl rfl (by decide +kernel) ⟨Nat.le_of_ble_eq_true rfl, Nat.le_of_ble_eq_true rfl⟩) (x_lt (x_suit0 h38)) 5 e50 rfl rfl hl.1 rfl (Nat.le_of_ble_eq_true rfl) dX8_moot_5 ⟨Nat.le_of_ble_eq_true rfl, Nat.le_of_ble_eq_true rfl⟩ (fun r g H locs hw hP hD hS => ?_)
  obtain ⟨hrs, rfl⟩ := hw
  obtain ⟨x51, rfl⟩ : ∃ q, q = r := ⟨_, rfl⟩
  rcases hrs with ⟨rfl, h52, h53⟩ | rfl
  · refine lv_if_eq (tgt := 28) hx hb dX8_moot_8 (by decide) (fun c => absurd c (by decide)) (fun _ => ?_)
    refine lv_iload_n hx hb dX8_moot_11 rfl (lv_at hl 2 rfl) ?_
    refine lv_iconst (v := 1) hx hb dX8_moot_12 (by decide) ?_
    have ttl_1 := tl_1
    refine lv_icmp_lt (tgt := 28) hx hb dX8_moot_13 (by decide) (fun c54 => ?_) (fun c54 => ?_)
    · have kc54 := c_lt c54
      refine lv_bipush (v := (-2)) hx hb dX8_moot_28 (by decide) ?_
      have ttl_m2 := tl_m2
      exact tI hx hb hr hlk rfl hP hS ⟨(by omega), hT⟩ dX8_moot_30
    · have kc54 := c_nlt c54
      refine lv_iload_n hx hb dX8_moot_16 rfl (lv_at hl 2 rfl) ?_
      refine lv_iconst (v := 3) hx hb dX8_moot_17 (by decide) ?_
      have ttl_3 := tl_3
      refine lv_icmp_gt (tgt := 28) hx hb dX8_moot_18 (by decide) (fun c55 => ?_) (fun c55 => ?_)
      · have kc55 := c_lt c55
        refine lv_bipush (v := (-2)) hx hb dX8_moot_28 (by decide) ?_
        have ttl_m2 := tl_m2
        exact tI hx hb hr hlk rfl hP hS ⟨(by omega), hT⟩ dX8_moot_30
      · have kc55 := c_nlt c55
        refine lv_iload_n hx hb dX8_moot_21 rfl (lv_at hl 3 rfl) ?_
        refine tSI (As := [.int p3]) (rest := []) ⟨hx, hb, hml, hown, hts⟩ hK hE hP hD hS hA hAB (s_X8_isZeroOrOne_0 l B0 adK adV D cy ad f p3 _) (va_cwS 1 hts gX8_moot_X8_isZeroOrOne rfl rfl rfl (by decide +kernel) ⟨Nat.le_of_ble_eq_true rfl, Nat.le_of_ble_eq_true rfl⟩) rfl hl.1 rfl (Nat.le_of_ble_eq_true rfl) dX8_moot_22 ⟨Nat.le_of_ble_eq_true rfl, Nat.le_of_ble_eq_true rfl⟩ (fun r g H locs hw hP hD hS => ?_)
        obtain ⟨hrs, rfl⟩ := hw
        obtain ⟨x56, rfl⟩ : ∃ q, q = r := ⟨_, rfl⟩
        rcases hrs with ⟨rfl, h57, h58⟩ | rfl
        · refine lv_if_ne (tgt := 31) hx hb dX8_moot_25 (by decide) (fun _ => ?_) (fun c => absurd c (by decide))
          refine lv_aload_n hx hb dX8_moot_31 rfl (lv_at hl 0 rfl) ?_
          refine tVV (As := []) (rest := []) (i := 0) ⟨hx, hb, hml, hown, hts⟩ hK hE hP hD hS hA hAB (s_X8_look_0 l B0 adK adV D cy ad fr0 tx rby rnx f hT _) (cwV 0 hts gX8_moot_X8_look rfl rfl rfl (by decide +kernel) ⟨Nat.le_of_ble_eq_true rfl, Nat.le_of_ble_eq_true rfl⟩) (by decide) 8 e42 rfl rfl hl.1 rfl (Nat.le_of_ble_eq_true rfl) dX8_moot_32 ⟨Nat.le_of_ble_eq_true rfl, Nat.le_of_ble_eq_true rfl⟩ (fun f H locs hw hP hD hS => ?_)
          obtain ⟨hrs, hT⟩ := hw
          refine lv_iconst (v := (-1)) hx hb dX8_moot_35 (by decide) ?_
          refine lv_istore (lv' := [(4, .int (-1)), (0, .ref (ad 0)), (1, .int p1), (2, .int p2), (3, .int p3)]) hx hb dX8_moot_36 hl (by decide) rfl (fun ls hl => ?_)
          have ttl_m1 := tl_m1
          exact j38 (Int.toNat (13 - ((-1) : Int32).toInt)) f H locs ls ((-1) : Int32) (by omega) (by omega) (by omega) (by omega) (by omega) hT hP hD hS (lv_sub hl [0, 1, 2, 3, 4] rfl)
        · refine lv_if_ne (tgt := 31) hx hb dX8_moot_25 (by decide) (fun c => absurd (by decide) c) (fun _ => ?_)
          refine lv_bipush (v := (-2)) hx hb dX8_moot_28 (by decide) ?_
          have ttl_m2 := tl_m2
          exact tI hx hb hr hlk rfl hP hS ⟨(by omega), hT⟩ dX8_moot_30
  · refine lv_if_eq (tgt := 28) hx hb dX8_moot_8 (by decide) (fun _ => ?_) (fun c => absurd (by decide) c)
    refine lv_bipush (v := (-2)) hx hb dX8_moot_28 (by decide) ?_
    have ttl_m2 := tl_m2
    exact tI hx hb hr hlk rfl hP hS ⟨(by omega), hT⟩ dX8_moot_30
set_option maxHeartbeats 4000000 in
set_option maxRecDepth 100000 in
theorem s_X2_age_0 (l : Launch) (B0 : Nat) (adK adV : Nat → Nat) (D : va_G) (cy : Nat → ClassId) (ad : Nat → Nat) (fr0 : Nat → va_E) (tx : Int32) (rby : Int32) (rnx : Int32) (f : Nat → va_E) (hT : TYx ad cy fr0 tx rby rnx f) (p1 : Int32) (sz : Nat) : TtV l yX2_age wsX2_age 0 0 [.ref (ad 10), .int p1] B0 adK adV D cy ad f sz (fun (g : Nat → va_E) => True ∧ (TYx ad cy fr0 tx rby rnx g)) := by
  refine TtV.of (cc := cX2_age) (maxL := 2) (own := RX2) (by decide) rfl (Nat.le_of_ble_eq_true rfl) rfl ?_
  intro p e s m below meth c A ls hx hb hr hml hts hown hlk hK hE hP hD hS hA hAB hl
  have hl : lv_has ls 2 [(0, .ref (ad 10)), (1, .int p1)] := hl
  refine st0 (fun H locs hP hS => ?_) hP hS
  refine lv_aload_n hx hb dX2_age_0 rfl (lv_at hl 0 rfl) ?_
  refine lv_iload_n hx hb dX2_age_1 rfl (lv_at hl 1 rfl) ?_
  obtain ⟨x1, t2, x4, x5, e6, h3⟩ := (show okX2 ad 10 (f 10) from hT.1 10 (by decide))
  refine va_put (D := D) (cl := vwCl) (ci := 2) (v := .int p1) (ty := tyX2 5) (C := RX2) (T := TX2) (N := 10) hx hb hts in_X2_age_X2 tyX2 tyX2_ok nmX2 hown hK hP hD hS 10 (wl_at (by decide) e6) rfl 5 (by decide) (hts (.fieldLink RX2 52 "EightReasons$Loom" "day" "I") (List.mem_of_getElem? (i := 1) rfl)) (fun _ h9 => h9) rfl (tyX2_ok 5 (by decide)) rfl rfl (Nat.le_of_ble_eq_true rfl) dX2_age_2 (fun H locs hP hD hS => ?_)
  obtain ⟨f, hT, hP, hD, e7, hj8⟩ := stU (by decide) (TYx.up hT (by decide) (show OKx ad cy tx rby rnx 10 _ from (show okX2 ad 10 _ from ⟨x1, t2, p1, x5, rfl, h3⟩))) hP hD
  refine lv_aload_n hx hb dX2_age_5 rfl (lv_at hl 0 rfl) ?_
  refine lv_dup hx hb dX2_age_6 rfl ?_
  refine va_get (D := D) (cl := vwCl) (ci := 2) (v := .int x5) (C := RX2) (T := TX2) (N := 10) hx hb hts in_X2_age_X2 hown hK hP 10 (wl_at (by decide) e7) rfl 9 (by decide) (hts (.fieldLink RX2 61 "EightReasons$Loom" "era" "I") (List.mem_of_getElem? (i := 2) rfl)) (fun _ h9 => h9) rfl dX2_age_7 ?_
  refine lv_iconst (v := 1) hx hb dX2_age_10 (by decide) ?_
  refine lv_iadd hx hb dX2_age_11 ?_
  refine lv_topi (fun x9 ex9 => ?_)
  refine va_put (D := D) (cl := vwCl) (ci := 2) (v := .int x9) (ty := tyX2 9) (C := RX2) (T := TX2) (N := 10) hx hb hts in_X2_age_X2 tyX2 tyX2_ok nmX2 hown hK hP hD hS 10 (wl_at (by decide) e7) rfl 9 (by decide) (hts (.fieldLink RX2 61 "EightReasons$Loom" "era" "I") (List.mem_of_getElem? (i := 2) rfl)) (fun _ h9 => h9) rfl (tyX2_ok 9 (by decide)) rfl rfl (Nat.le_of_ble_eq_true rfl) dX2_age_12 (fun H locs hP hD hS => ?_)
  obtain ⟨f, hT, hP, hD, e10, hj11⟩ := stU (by decide) (TYx.up hT (by decide) (show OKx ad cy tx rby rnx 10 _ from (show okX2 ad 10 _ from ⟨x1, t2, p1, x9, rfl, h3⟩))) hP hD
  exact tV hx hb hr hlk hP hS ⟨trivial, hT⟩ dX2_age_15
set_option maxHeartbeats 4000000 in
set_option maxRecDepth 100000 in
theorem s_X8_fall_0 (l : Launch) (B0 : Nat) (adK adV : Nat → Nat) (D : va_G) (cy : Nat → ClassId) (ad : Nat → Nat) (fr0 : Nat → va_E) (tx : Int32) (rby : Int32) (rnx : Int32) (f : Nat → va_E) (hT : TYx ad cy fr0 tx rby rnx f) (p1 : Int32) (sz : Nat) : TtI l yX8_fall wsX8_fall 6 146 [.ref (ad 0), .int p1] B0 adK adV D cy ad f sz (fun (r : Int32) (g : Nat → va_E) => (-1 ≤ r.toInt ∧ r.toInt ≤ 60) ∧ (TYx ad cy fr0 tx rby rnx g)) := by
  refine TtI.of (cc := cX8_fall) (maxL := 3) (ty := .int) (own := RX8) (by decide) rfl (Nat.le_of_ble_eq_true rfl) rfl ?_
  intro p e s m below meth c A ls hx hb hr hml hts hown hlk hK hE hP hD hS hA hAB hl
  have hl : lv_has ls 3 [(0, .ref (ad 0)), (1, .int p1)] := hl
  refine st0 (fun H locs hP hS => ?_) hP hS
  have j19 : ∀ (N : Nat) (f : Nat → va_E) (H : Heap) (locs : List Loc) (ls : Array Slot) (v19_l2 : Int32), (64 - v19_l2.toInt ≤ (N : Int)) → (0 ≤ v19_l2.toInt ∧ v19_l2.toInt ≤ 63) → (0 ≤ p1.toInt ∧ p1.toInt ≤ 9) → (TYx ad cy fr0 tx rby rnx f) → (va_P D vwCl (wl ad f) H) → (va_D A (wl ad f)) → (va_S A s.heap H locs) → (lv_has ls 3 [(2, .int v19_l2), (0, .ref (ad 0)), (1, .int p1)]) → W p l e (rmO 6 146 0 0) s m ([.ref (ad 0), .int p1] : List Value).toArray below meth c H locs 0 0 (MQ below (va_Qi (fun (r : Int32) (g : Nat → va_E) => (-1 ≤ r.toInt ∧ r.toInt ≤ 60) ∧ (TYx ad cy fr0 tx rby rnx g)) (fun g t => PstT D ad g t) A) ([.ref (ad 0), .int p1] : List Value).toArray s 0 0 A) (F0 m 19 ls []) := by
    intro N
    induction N with
    | zero => intro f H locs ls v19_l2 hN hv19_l2 hv19_l1 hT hP hD hS hl; exact absurd hN (by omega)
    | succ N ih19 =>
      intro f H locs ls v19_l2 hN hv19_l2 hv19_l1 hT hP hD hS hl
      refine lv_iload_n hx hb dX8_fall_19 rfl (lv_at hl 0 rfl) ?_
      refine lv_bipush (v := 60) hx hb dX8_fall_20 (by decide) ?_
      have ttl_60 := tl_60
      refine lv_icmp_gt (tgt := 64) hx hb dX8_fall_22 (by decide) (fun c1 => ?_) (fun c1 => ?_)
      · have kc1 := c_lt c1
        refine lv_iconst (v := (-1)) hx hb dX8_fall_64 (by decide) ?_
        have ttl_m1 := tl_m1
        exact tI hx hb hr hlk rfl hP hS ⟨(by omega), hT⟩ dX8_fall_65
      · have kc1 := c_nlt c1
        refine lv_aload_n hx hb dX8_fall_25 rfl (lv_at hl 1 rfl) ?_
        obtain ⟨t2, x4, x5, e7, h3, h6⟩ := (show okX8 ad tx 0 (f 0) from hT.1 0 (by decide))
        refine va_get (D := D) (cl := vwCl) (ci := 8) (v := .ref (ad 10)) (C := RX8) (T := TX8) (N := 13) hx hb hts in_X8_fall_X8 hown hK hP 0 (wl_at (by decide) e7) rfl 6 (by decide) (hts (.fieldLink RX8 44 "EightReasons" "loom" "LEightReasons$Loom;") (List.mem_of_getElem? (i := 2) rfl)) (fun _ h9 => h9) rfl dX8_fall_26 ?_
        refine lv_aload_n hx hb dX8_fall_29 rfl (lv_at hl 1 rfl) ?_
        refine tVR (As := []) (rest := [.ref (ad 10)]) (i := 0) ⟨hx, hb, hml, hown, hts⟩ hK hE hP hD hS hA hAB (s_X8_now_0 l B0 adK adV D cy ad fr0 tx rby rnx f hT _) (cwV 0 hts gX8_fall_X8_now rfl rfl rfl (by decide +kernel) ⟨Nat.le_of_ble_eq_true rfl, Nat.le_of_ble_eq_true rfl⟩) (by decide) 8 e7 rfl rfl hl.1 rfl (Nat.le_of_ble_eq_true rfl) dX8_fall_30 ⟨Nat.le_of_ble_eq_true rfl, Nat.le_of_ble_eq_true rfl⟩ (fun ra g H locs hw hra hP hD hS => ?_)
        obtain ⟨hrs, rfl⟩ := hw
        obtain ⟨t8, h9, rfl⟩ := hra
        obtain ⟨x10, x12, x13, x14, e15, h11⟩ := (ty_state hT h9)
        refine va_get (D := D) (cl := vwCl) (ci := 4) (v := .int x13) (C := RX4) (T := TX4) (N := 5) hx hb hts in_X8_fall_X4 hown hK hP t8 (wl_at (x_lt (x_state0 h9)) e15) rfl 3 (by decide) (hts (.fieldLink RX8 160 "EightReasons$State" "day" "I") (List.mem_of_getElem? (i := 3) rfl)) (fun _ h9 => h9) rfl dX8_fall_33 ?_
        refine lv_iload_n hx hb dX8_fall_36 rfl (lv_at hl 0 rfl) ?_
        refine lv_iadd hx hb dX8_fall_37 ?_
        refine lv_topi (fun x16 ex16 => ?_)
        obtain ⟨x17, t18, x20, x21, e22, h19⟩ := (show okX2 ad 10 (f 10) from hT.1 10 (by decide))
        refine tVV (As := [.int x16]) (rest := []) (i := 10) ⟨hx, hb, hml, hown, hts⟩ hK hE hP hD hS hA hAB (s_X2_age_0 l B0 adK adV D cy ad fr0 tx rby rnx f hT x16 _) (cwV 1 hts gX8_fall_X2_age rfl rfl rfl (by decide +kernel) ⟨Nat.le_of_ble_eq_true rfl, Nat.le_of_ble_eq_true rfl⟩) (by decide) 2 e22 rfl rfl hl.1 rfl (Nat.le_of_ble_eq_true rfl) dX8_fall_38 ⟨Nat.le_of_ble_eq_true rfl, Nat.le_of_ble_eq_true rfl⟩ (fun f H locs hw hP hD hS => ?_)
        obtain ⟨hrs, hT⟩ := hw
        refine lv_aload_n hx hb dX8_fall_41 rfl (lv_at hl 1 rfl) ?_
        refine lv_iload_n hx hb dX8_fall_42 rfl (lv_at hl 2 rfl) ?_
        refine lv_aload_n hx hb dX8_fall_43 rfl (lv_at hl 1 rfl) ?_
        obtain ⟨t23, x25, x26, e28, h24, h27⟩ := (show okX8 ad tx 0 (f 0) from hT.1 0 (by decide))
        refine tVR (As := []) (rest := [.int p1, .ref (ad 0)]) (i := 0) ⟨hx, hb, hml, hown, hts⟩ hK hE hP hD hS hA hAB (s_X8_now_0 l B0 adK adV D cy ad fr0 tx rby rnx f hT _) (cwV 0 hts gX8_fall_X8_now rfl rfl rfl (by decide +kernel) ⟨Nat.le_of_ble_eq_true rfl, Nat.le_of_ble_eq_true rfl⟩) (by decide) 8 e28 rfl rfl hl.1 rfl (Nat.le_of_ble_eq_true rfl) dX8_fall_44 ⟨Nat.le_of_ble_eq_true rfl, Nat.le_of_ble_eq_true rfl⟩ (fun ra g H locs hw hra hP hD hS => ?_)
        obtain ⟨hrs, rfl⟩ := hw
        obtain ⟨t29, h30, rfl⟩ := hra
        obtain ⟨x31, x33, x34, x35, e36, h32⟩ := (ty_state hT h30)
        refine va_get (D := D) (cl := vwCl) (ci := 4) (v := .int x31) (C := RX4) (T := TX4) (N := 5) hx hb hts in_X8_fall_X4 hown hK hP t29 (wl_at (x_lt (x_state0 h30)) e36) rfl 1 (by decide) (hts (.fieldLink RX8 145 "EightReasons$State" "tied" "I") (List.mem_of_getElem? (i := 4) rfl)) (fun _ h9 => h9) rfl dX8_fall_47 ?_
        refine tVI (As := [.int p1, .int x31]) (rest := []) (i := 0) ⟨hx, hb, hml, hown, hts⟩ hK hE hP hD hS hA hAB (s_X8_isUp_0 l B0 adK adV D cy ad fr0 tx rby rnx f hT p1 (by omega) x31 (by omega) _) (cwV 2 hts gX8_fall_X8_isUp rfl rfl rfl (by decide +kernel) ⟨Nat.le_of_ble_eq_true rfl, Nat.le_of_ble_eq_true rfl⟩) (by decide) 8 e28 rfl rfl hl.1 rfl (Nat.le_of_ble_eq_true rfl) dX8_fall_50 ⟨Nat.le_of_ble_eq_true rfl, Nat.le_of_ble_eq_true rfl⟩ (fun r f H locs hw hP hD hS => ?_)
        obtain ⟨hrs, hT⟩ := hw
        obtain ⟨x37, rfl⟩ : ∃ q, q = r := ⟨_, rfl⟩
        rcases hrs with rfl | rfl
        · refine lv_if_ne (tgt := 58) hx hb dX8_fall_53 (by decide) (fun _ => ?_) (fun c => absurd c (by decide))
          obtain ⟨x38, ex38⟩ : ∃ q : Int32, q = v19_l2 + Int32.ofInt (1) := ⟨_, rfl⟩
          refine lv_iinc (v := x38) (lv' := [(2, .int x38), (0, .ref (ad 0)), (1, .int p1)]) hx hb dX8_fall_58 hl (k := 0) rfl ex38.symm (by decide) rfl (fun ls hl => ?_)
          have hx38 := r_inc ex38 (by decide) (by omega) (by omega)
          refine lv_goto (tgt := 19) hx hb dX8_fall_61 (by decide) ?_
          exact ih19 f H locs ls x38 (by omega) (by omega) (by omega) hT hP hD hS (lv_sub hl [0, 1, 2] rfl)
        · refine lv_if_ne (tgt := 58) hx hb dX8_fall_53 (by decide) (fun c => absurd (by decide) c) (fun _ => ?_)
          refine lv_iload_n hx hb dX8_fall_56 rfl (lv_at hl 0 rfl) ?_
          exact tI hx hb hr hlk rfl hP hS ⟨(by omega), hT⟩ dX8_fall_57
  refine lv_aload_n hx hb dX8_fall_0 rfl (lv_at hl 0 rfl) ?_
  obtain ⟨t39, x41, x42, e44, h40, h43⟩ := (show okX8 ad tx 0 (f 0) from hT.1 0 (by decide))
  refine va_get (D := D) (cl := vwCl) (ci := 8) (v := .ref (ad t39)) (C := RX8) (T := TX8) (N := 13) hx hb hts in_X8_fall_X8 hown hK hP 0 (wl_at (by decide) e44) rfl 1 (by decide) (hts (.fieldLink RX8 19 "EightReasons" "told" "LEightReasons$Suit;") (List.mem_of_getElem? (i := 1) rfl)) (fun _ h9 => h9) rfl dX8_fall_1 ?_
  refine lv_iload_n hx hb dX8_fall_4 rfl (lv_at hl 1 rfl) ?_
  obtain ⟨x45, x47, x48, x50, x51, e52, h46, h49⟩ := (ty_suit hT h40)
  refine tVI (As := [.int p1]) (rest := []) (i := t39) ⟨hx, hb, hml, hown, hts⟩ hK hE hP hD hS hA hAB (s_X5_isClaim_0 l B0 adK adV D cy ad fr0 tx rby rnx f hT t39 h40 p1 _) (cwV 1 hts gX8_fall_X5_isClaim rfl rfl rfl (by decide +kernel) ⟨Nat.le_of_ble_eq_true rfl, Nat.le_of_ble_eq_true rfl⟩) (x_lt (x_suit0 h40)) 5 e52 rfl rfl hl.1 rfl (Nat.le_of_ble_eq_true rfl) dX8_fall_5 ⟨Nat.le_of_ble_eq_true rfl, Nat.le_of_ble_eq_true rfl⟩ (fun r g H locs hw hP hD hS => ?_)
  obtain ⟨hrs, rfl⟩ := hw
  obtain ⟨x53, rfl⟩ : ∃ q, q = r := ⟨_, rfl⟩
  rcases hrs with ⟨rfl, h54, h55⟩ | rfl
  · refine lv_if_ne (tgt := 13) hx hb dX8_fall_8 (by decide) (fun _ => ?_) (fun c => absurd c (by decide))
    refine lv_aload_n hx hb dX8_fall_13 rfl (lv_at hl 0 rfl) ?_
    refine tVV (As := []) (rest := []) (i := 0) ⟨hx, hb, hml, hown, hts⟩ hK hE hP hD hS hA hAB (s_X8_look_0 l B0 adK adV D cy ad fr0 tx rby rnx f hT _) (cwV 0 hts gX8_fall_X8_look rfl rfl rfl (by decide +kernel) ⟨Nat.le_of_ble_eq_true rfl, Nat.le_of_ble_eq_true rfl⟩) (by decide) 8 e44 rfl rfl hl.1 rfl (Nat.le_of_ble_eq_true rfl) dX8_fall_14 ⟨Nat.le_of_ble_eq_true rfl, Nat.le_of_ble_eq_true rfl⟩ (fun f H locs hw hP hD hS => ?_)
    obtain ⟨hrs, hT⟩ := hw
    refine lv_iconst (v := 0) hx hb dX8_fall_17 (by decide) ?_
    refine lv_istore_n (lv' := [(2, .int 0), (0, .ref (ad 0)), (1, .int p1)]) hx hb dX8_fall_18 rfl hl (by decide) rfl (fun ls hl => ?_)
    have ttl_0 := tl_0
    exact j19 (Int.toNat (64 - (0 : Int32).toInt)) f H locs ls (0 : Int32) (by omega) (by omega) (by omega) hT hP hD hS (lv_sub hl [0, 1, 2] rfl)
  · refine lv_if_ne (tgt := 13) hx hb dX8_fall_8 (by decide) (fun c => absurd (by decide) c) (fun _ => ?_)
    refine lv_iconst (v := (-1)) hx hb dX8_fall_11 (by decide) ?_
    have ttl_m1 := tl_m1
    exact tI hx hb hr hlk rfl hP hS ⟨(by omega), hT⟩ dX8_fall_12
set_option maxHeartbeats 4000000 in
set_option maxRecDepth 100000 in
theorem s_X8_standingWithout_0 (l : Launch) (B0 : Nat) (adK adV : Nat → Nat) (D : va_G) (cy : Nat → ClassId) (ad : Nat → Nat) (fr0 : Nat → va_E) (tx : Int32) (rby : Int32) (rnx : Int32) (f : Nat → va_E) (hT : TYx ad cy fr0 tx rby rnx f) (p1 : Int32) (hp1 : 0 ≤ p1.toInt ∧ p1.toInt ≤ 9) (sz : Nat) : TtI l yX8_standingWithout wsX8_standingWithout 5 124 [.ref (ad 0), .int p1] B0 adK adV D cy ad f sz (fun (r : Int32) (g : Nat → va_E) => True ∧ (TYx ad cy fr0 tx rby rnx g)) := by
  refine TtI.of (cc := cX8_standingWithout) (maxL := 3) (ty := .int) (own := RX8) (by decide) rfl (Nat.le_of_ble_eq_true rfl) rfl ?_
  intro p e s m below meth c A ls hx hb hr hml hts hown hlk hK hE hP hD hS hA hAB hl
  have hl : lv_has ls 3 [(0, .ref (ad 0)), (1, .int p1)] := hl
  refine st0 (fun H locs hP hS => ?_) hP hS
  refine lv_aload_n hx hb dX8_standingWithout_0 rfl (lv_at hl 0 rfl) ?_
  obtain ⟨t1, x3, x4, e6, h2, h5⟩ := (show okX8 ad tx 0 (f 0) from hT.1 0 (by decide))
  refine va_get (D := D) (cl := vwCl) (ci := 8) (v := .ref (ad 10)) (C := RX8) (T := TX8) (N := 13) hx hb hts in_X8_standingWithout_X8 hown hK hP 0 (wl_at (by decide) e6) rfl 6 (by decide) (hts (.fieldLink RX8 44 "EightReasons" "loom" "LEightReasons$Loom;") (List.mem_of_getElem? (i := 1) rfl)) (fun _ h9 => h9) rfl dX8_standingWithout_1 ?_
  refine lv_dup hx hb dX8_standingWithout_4 rfl ?_
  obtain ⟨x7, t8, x10, x11, e12, h9⟩ := (show okX2 ad 10 (f 10) from hT.1 10 (by decide))
  refine va_get (D := D) (cl := vwCl) (ci := 2) (v := .int x7) (C := RX2) (T := TX2) (N := 10) hx hb hts in_X8_standingWithout_X2 hown hK hP 10 (wl_at (by decide) e12) rfl 0 (by decide) (hts (.fieldLink RX8 299 "EightReasons$Loom" "proved" "I") (List.mem_of_getElem? (i := 2) rfl)) (fun _ h9 => h9) rfl dX8_standingWithout_5 ?_
  refine lv_iconst (v := 1) hx hb dX8_standingWithout_8 (by decide) ?_
  refine lv_iload_n hx hb dX8_standingWithout_9 rfl (lv_at hl 1 rfl) ?_
  refine lv_ishl hx hb dX8_standingWithout_10 ?_
  refine lv_topi (fun x13 ex13 => ?_)
  have hx13 := r_shl (K := 9) (M := 512) ex13 (by decide) (by decide) (by omega) (by omega)
  refine lv_ixor hx hb dX8_standingWithout_11 ?_
  refine lv_topi (fun x14 ex14 => ?_)
  refine va_put (D := D) (cl := vwCl) (ci := 2) (v := .int x14) (ty := tyX2 0) (C := RX2) (T := TX2) (N := 10) hx hb hts in_X8_standingWithout_X2 tyX2 tyX2_ok nmX2 hown hK hP hD hS 10 (wl_at (by decide) e12) rfl 0 (by decide) (hts (.fieldLink RX8 299 "EightReasons$Loom" "proved" "I") (List.mem_of_getElem? (i := 2) rfl)) (fun _ h9 => h9) rfl (tyX2_ok 0 (by decide)) rfl rfl (Nat.le_of_ble_eq_true rfl) dX8_standingWithout_12 (fun H locs hP hD hS => ?_)
  obtain ⟨f, hT, hP, hD, e15, hj16⟩ := stU (by decide) (TYx.up hT (by decide) (show OKx ad cy tx rby rnx 10 _ from (show okX2 ad 10 _ from ⟨x14, t8, x10, x11, rfl, h9⟩))) hP hD
  have e17 := (hj16 0 (by decide)).trans e6
  refine lv_aload_n hx hb dX8_standingWithout_15 rfl (lv_at hl 0 rfl) ?_
  refine va_get (D := D) (cl := vwCl) (ci := 8) (v := .ref (ad 10)) (C := RX8) (T := TX8) (N := 13) hx hb hts in_X8_standingWithout_X8 hown hK hP 0 (wl_at (by decide) e17) rfl 6 (by decide) (hts (.fieldLink RX8 44 "EightReasons" "loom" "LEightReasons$Loom;") (List.mem_of_getElem? (i := 1) rfl)) (fun _ h9 => h9) rfl dX8_standingWithout_16 ?_
  refine lv_aload_n hx hb dX8_standingWithout_19 rfl (lv_at hl 0 rfl) ?_
  refine tVR (As := []) (rest := [.ref (ad 10)]) (i := 0) ⟨hx, hb, hml, hown, hts⟩ hK hE hP hD hS hA hAB (s_X8_now_0 l B0 adK adV D cy ad fr0 tx rby rnx f hT _) (cwV 0 hts gX8_standingWithout_X8_now rfl rfl rfl (by decide +kernel) ⟨Nat.le_of_ble_eq_true rfl, Nat.le_of_ble_eq_true rfl⟩) (by decide) 8 e17 rfl rfl hl.1 rfl (Nat.le_of_ble_eq_true rfl) dX8_standingWithout_20 ⟨Nat.le_of_ble_eq_true rfl, Nat.le_of_ble_eq_true rfl⟩ (fun ra g H locs hw hra hP hD hS => ?_)
  obtain ⟨hrs, rfl⟩ := hw
  obtain ⟨t18, h19, rfl⟩ := hra
  obtain ⟨x20, x22, x23, x24, e25, h21⟩ := (ty_state hT h19)
  refine va_get (D := D) (cl := vwCl) (ci := 4) (v := .int x20) (C := RX4) (T := TX4) (N := 5) hx hb hts in_X8_standingWithout_X4 hown hK hP t18 (wl_at (x_lt (x_state0 h19)) e25) rfl 1 (by decide) (hts (.fieldLink RX8 145 "EightReasons$State" "tied" "I") (List.mem_of_getElem? (i := 3) rfl)) (fun _ h9 => h9) rfl dX8_standingWithout_23 ?_
  refine tVI (As := [.int x20]) (rest := []) (i := 10) ⟨hx, hb, hml, hown, hts⟩ hK hE hP hD hS hA hAB (s_X2_standing_0 l B0 adK adV D cy ad fr0 tx rby rnx f hT x20 _) (cwV 1 hts gX8_standingWithout_X2_standing rfl rfl rfl (by decide +kernel) ⟨Nat.le_of_ble_eq_true rfl, Nat.le_of_ble_eq_true rfl⟩) (by decide) 2 e15 rfl rfl hl.1 rfl (Nat.le_of_ble_eq_true rfl) dX8_standingWithout_26 ⟨Nat.le_of_ble_eq_true rfl, Nat.le_of_ble_eq_true rfl⟩ (fun r f H locs hw hP hD hS => ?_)
  obtain ⟨hrs, hT⟩ := hw
  obtain ⟨x26, rfl⟩ : ∃ q, q = r := ⟨_, rfl⟩
  have h27 := hrs
  refine lv_istore_n (lv' := [(2, .int x26), (0, .ref (ad 0)), (1, .int p1)]) hx hb dX8_standingWithout_29 rfl hl (by decide) rfl (fun ls hl => ?_)
  refine lv_aload_n hx hb dX8_standingWithout_30 rfl (lv_at hl 1 rfl) ?_
  obtain ⟨t28, x30, x31, e33, h29, h32⟩ := (show okX8 ad tx 0 (f 0) from hT.1 0 (by decide))
  refine va_get (D := D) (cl := vwCl) (ci := 8) (v := .ref (ad 10)) (C := RX8) (T := TX8) (N := 13) hx hb hts in_X8_standingWithout_X8 hown hK hP 0 (wl_at (by decide) e33) rfl 6 (by decide) (hts (.fieldLink RX8 44 "EightReasons" "loom" "LEightReasons$Loom;") (List.mem_of_getElem? (i := 1) rfl)) (fun _ h9 => h9) rfl dX8_standingWithout_31 ?_
  refine lv_dup hx hb dX8_standingWithout_34 rfl ?_
  obtain ⟨x34, t35, x37, x38, e39, h36⟩ := (show okX2 ad 10 (f 10) from hT.1 10 (by decide))
  refine va_get (D := D) (cl := vwCl) (ci := 2) (v := .int x34) (C := RX2) (T := TX2) (N := 10) hx hb hts in_X8_standingWithout_X2 hown hK hP 10 (wl_at (by decide) e39) rfl 0 (by decide) (hts (.fieldLink RX8 299 "EightReasons$Loom" "proved" "I") (List.mem_of_getElem? (i := 2) rfl)) (fun _ h9 => h9) rfl dX8_standingWithout_35 ?_
  refine lv_iconst (v := 1) hx hb dX8_standingWithout_38 (by decide) ?_
  refine lv_iload_n hx hb dX8_standingWithout_39 rfl (lv_at hl 2 rfl) ?_
  refine lv_ishl hx hb dX8_standingWithout_40 ?_
  refine lv_topi (fun x40 ex40 => ?_)
  have hx40 := r_shl (K := 9) (M := 512) ex40 (by decide) (by decide) (by omega) (by omega)
  refine lv_ixor hx hb dX8_standingWithout_41 ?_
  refine lv_topi (fun x41 ex41 => ?_)
  refine va_put (D := D) (cl := vwCl) (ci := 2) (v := .int x41) (ty := tyX2 0) (C := RX2) (T := TX2) (N := 10) hx hb hts in_X8_standingWithout_X2 tyX2 tyX2_ok nmX2 hown hK hP hD hS 10 (wl_at (by decide) e39) rfl 0 (by decide) (hts (.fieldLink RX8 299 "EightReasons$Loom" "proved" "I") (List.mem_of_getElem? (i := 2) rfl)) (fun _ h9 => h9) rfl (tyX2_ok 0 (by decide)) rfl rfl (Nat.le_of_ble_eq_true rfl) dX8_standingWithout_42 (fun H locs hP hD hS => ?_)
  obtain ⟨f, hT, hP, hD, e42, hj43⟩ := stU (by decide) (TYx.up hT (by decide) (show OKx ad cy tx rby rnx 10 _ from (show okX2 ad 10 _ from ⟨x41, t35, x37, x38, rfl, h36⟩))) hP hD
  have e44 := (hj43 0 (by decide)).trans e33
  refine lv_iload_n hx hb dX8_standingWithout_45 rfl (lv_at hl 0 rfl) ?_
  exact tI hx hb hr hlk rfl hP hS ⟨trivial, hT⟩ dX8_standingWithout_46
set_option maxHeartbeats 4000000 in
set_option maxRecDepth 100000 in
theorem s_X8_keystone_0 (l : Launch) (B0 : Nat) (adK adV : Nat → Nat) (D : va_G) (cy : Nat → ClassId) (ad : Nat → Nat) (fr0 : Nat → va_E) (tx : Int32) (rby : Int32) (rnx : Int32) (f : Nat → va_E) (hT : TYx ad cy fr0 tx rby rnx f) (p1 : Int32) (sz : Nat) : TtI l yX8_keystone wsX8_keystone 6 146 [.ref (ad 0), .int p1] B0 adK adV D cy ad f sz (fun (r : Int32) (g : Nat → va_E) => (-1 ≤ r.toInt ∧ r.toInt ≤ 11) ∧ (TYx ad cy fr0 tx rby rnx g)) := by
  refine TtI.of (cc := cX8_keystone) (maxL := 6) (ty := .int) (own := RX8) (by decide) rfl (Nat.le_of_ble_eq_true rfl) rfl ?_
  intro p e s m below meth c A ls hx hb hr hml hts hown hlk hK hE hP hD hS hA hAB hl
  have hl : lv_has ls 6 [(0, .ref (ad 0)), (1, .int p1)] := hl
  refine st0 (fun H locs hP hS => ?_) hP hS
  have j21 : ∀ (N : Nat) (f : Nat → va_E) (H : Heap) (locs : List Loc) (ls : Array Slot) (v21_l4 : Int32) (v21_l3 : Int32) (v21_l2 : Int32), (11 - v21_l4.toInt ≤ (N : Int)) → (0 ≤ v21_l4.toInt ∧ v21_l4.toInt ≤ 10) → (0 ≤ v21_l3.toInt ∧ v21_l3.toInt ≤ 11) → (-1 ≤ v21_l2.toInt ∧ v21_l2.toInt ≤ 9) → (0 ≤ p1.toInt ∧ p1.toInt ≤ 1) → (TYx ad cy fr0 tx rby rnx f) → (va_P D vwCl (wl ad f) H) → (va_D A (wl ad f)) → (va_S A s.heap H locs) → (lv_has ls 6 [(4, .int v21_l4), (3, .int v21_l3), (2, .int v21_l2), (0, .ref (ad 0)), (1, .int p1)]) → W p l e (rmO 6 146 0 0) s m ([.ref (ad 0), .int p1] : List Value).toArray below meth c H locs 0 0 (MQ below (va_Qi (fun (r : Int32) (g : Nat → va_E) => (-1 ≤ r.toInt ∧ r.toInt ≤ 11) ∧ (TYx ad cy fr0 tx rby rnx g)) (fun g t => PstT D ad g t) A) ([.ref (ad 0), .int p1] : List Value).toArray s 0 0 A) (F0 m 21 ls []) := by
    intro N
    induction N with
    | zero => intro f H locs ls v21_l4 v21_l3 v21_l2 hN hv21_l4 hv21_l3 hv21_l2 hv21_l1 hT hP hD hS hl; exact absurd hN (by omega)
    | succ N ih21 =>
      intro f H locs ls v21_l4 v21_l3 v21_l2 hN hv21_l4 hv21_l3 hv21_l2 hv21_l1 hT hP hD hS hl
      have j73 : ∀ (f : Nat → va_E) (H : Heap) (locs : List Loc) (ls : Array Slot) (v73_l3 : Int32) (v73_l2 : Int32), (0 ≤ v21_l4.toInt ∧ v21_l4.toInt ≤ 9) → (0 ≤ v73_l3.toInt ∧ v73_l3.toInt ≤ 11) → (-1 ≤ v73_l2.toInt ∧ v73_l2.toInt ≤ 9) → (0 ≤ p1.toInt ∧ p1.toInt ≤ 1) → (TYx ad cy fr0 tx rby rnx f) → (va_P D vwCl (wl ad f) H) → (va_D A (wl ad f)) → (va_S A s.heap H locs) → (lv_has ls 6 [(4, .int v21_l4), (3, .int v73_l3), (2, .int v73_l2), (0, .ref (ad 0)), (1, .int p1)]) → W p l e (rmO 6 146 0 0) s m ([.ref (ad 0), .int p1] : List Value).toArray below meth c H locs 0 0 (MQ below (va_Qi (fun (r : Int32) (g : Nat → va_E) => (-1 ≤ r.toInt ∧ r.toInt ≤ 11) ∧ (TYx ad cy fr0 tx rby rnx g)) (fun g t => PstT D ad g t) A) ([.ref (ad 0), .int p1] : List Value).toArray s 0 0 A) (F0 m 73 ls []) := by
        intro f H locs ls v73_l3 v73_l2 hv73_l4 hv73_l3 hv73_l2 hv73_l1 hT hP hD hS hl
        obtain ⟨x1, ex1⟩ : ∃ q : Int32, q = v21_l4 + Int32.ofInt (1) := ⟨_, rfl⟩
        refine lv_iinc (v := x1) (lv' := [(4, .int x1), (3, .int v73_l3), (2, .int v73_l2), (0, .ref (ad 0)), (1, .int p1)]) hx hb dX8_keystone_73 hl (k := 0) rfl ex1.symm (by decide) rfl (fun ls hl => ?_)
        have hx1 := r_inc ex1 (by decide) (by omega) (by omega)
        refine lv_goto (tgt := 21) hx hb dX8_keystone_76 (by decide) ?_
        exact ih21 f H locs ls x1 v73_l3 v73_l2 (by omega) (by omega) (by omega) (by omega) (by omega) hT hP hD hS (lv_sub hl [0, 1, 2, 3, 4] rfl)
      refine lv_iload hx hb dX8_keystone_21 (lv_at hl 0 rfl) ?_
      refine lv_aload_n hx hb dX8_keystone_23 rfl (lv_at hl 3 rfl) ?_
      obtain ⟨t2, x4, x5, e7, h3, h6⟩ := (show okX8 ad tx 0 (f 0) from hT.1 0 (by decide))
      refine va_get (D := D) (cl := vwCl) (ci := 8) (v := .ref (ad t2)) (C := RX8) (T := TX8) (N := 13) hx hb hts in_X8_keystone_X8 hown hK hP 0 (wl_at (by decide) e7) rfl 1 (by decide) (hts (.fieldLink RX8 19 "EightReasons" "told" "LEightReasons$Suit;") (List.mem_of_getElem? (i := 1) rfl)) (fun _ h9 => h9) rfl dX8_keystone_24 ?_
      obtain ⟨x8, x10, x11, x13, x14, e15, h9, h12⟩ := (ty_suit hT h3)
      refine va_get (D := D) (cl := vwCl) (ci := 5) (v := .int x8) (C := RX5) (T := TX5) (N := 12) hx hb hts in_X8_keystone_X5 hown hK hP t2 (wl_at (x_lt (x_suit0 h3)) e15) rfl 0 (by decide) (hts (.fieldLink RX8 105 "EightReasons$Suit" "points" "I") (List.mem_of_getElem? (i := 2) rfl)) (fun _ h9 => h9) rfl dX8_keystone_27 ?_
      refine lv_icmp_ge (tgt := 79) hx hb dX8_keystone_30 (by decide) (fun c16 => ?_) (fun c16 => ?_)
      · have kc16 := c_le c16
        refine lv_iload_n hx hb dX8_keystone_79 rfl (lv_at hl 4 rfl) ?_
        refine lv_iconst (v := 1) hx hb dX8_keystone_80 (by decide) ?_
        have ttl_1 := tl_1
        refine lv_icmp_ne (tgt := 93) hx hb dX8_keystone_81 (by decide) (fun c17 => ?_) (fun c17 => ?_)
        · have kc17 := c_ne c17
          refine lv_iload_n hx hb dX8_keystone_93 rfl (lv_at hl 2 rfl) ?_
          exact tI hx hb hr hlk rfl hP hS ⟨(by omega), hT⟩ dX8_keystone_94
        · have kc17 := c_eq c17
          refine lv_iload_n hx hb dX8_keystone_84 rfl (lv_at hl 2 rfl) ?_
          refine lv_iconst (v := (-1)) hx hb dX8_keystone_85 (by decide) ?_
          have ttl_m1 := tl_m1
          refine lv_icmp_eq (tgt := 93) hx hb dX8_keystone_86 (by decide) (fun c18 => ?_) (fun c18 => ?_)
          · have kc18 := c_eq c18
            refine lv_iload_n hx hb dX8_keystone_93 rfl (lv_at hl 2 rfl) ?_
            exact tI hx hb hr hlk rfl hP hS ⟨(by omega), hT⟩ dX8_keystone_94
          · have kc18 := c_ne c18
            refine lv_iload_n hx hb dX8_keystone_89 rfl (lv_at hl 1 rfl) ?_
            refine lv_goto (tgt := 94) hx hb dX8_keystone_90 (by decide) ?_
            exact tI hx hb hr hlk rfl hP hS ⟨(by omega), hT⟩ dX8_keystone_94
      · have kc16 := c_nle c16
        refine lv_aload_n hx hb dX8_keystone_33 rfl (lv_at hl 3 rfl) ?_
        refine lv_iload hx hb dX8_keystone_34 (lv_at hl 0 rfl) ?_
        refine tVI (As := [.int v21_l4]) (rest := []) (i := 0) ⟨hx, hb, hml, hown, hts⟩ hK hE hP hD hS hA hAB (s_X8_isProved_0 l B0 adK adV D cy ad fr0 tx rby rnx f hT v21_l4 _) (cwV 1 hts gX8_keystone_X8_isProved rfl rfl rfl (by decide +kernel) ⟨Nat.le_of_ble_eq_true rfl, Nat.le_of_ble_eq_true rfl⟩) (by decide) 8 e7 rfl rfl hl.1 rfl (Nat.le_of_ble_eq_true rfl) dX8_keystone_36 ⟨Nat.le_of_ble_eq_true rfl, Nat.le_of_ble_eq_true rfl⟩ (fun r g H locs hw hP hD hS => ?_)
        obtain ⟨hrs, rfl⟩ := hw
        obtain ⟨x19, rfl⟩ : ∃ q, q = r := ⟨_, rfl⟩
        rcases hrs with ⟨rfl, h20, h21⟩ | rfl
        · refine lv_if_eq (tgt := 73) hx hb dX8_keystone_39 (by decide) (fun c => absurd c (by decide)) (fun _ => ?_)
          refine lv_aload_n hx hb dX8_keystone_42 rfl (lv_at hl 3 rfl) ?_
          refine lv_iload hx hb dX8_keystone_43 (lv_at hl 0 rfl) ?_
          refine tVI (As := [.int v21_l4]) (rest := []) (i := 0) ⟨hx, hb, hml, hown, hts⟩ hK hE hP hD hS hA hAB (s_X8_standingWithout_0 l B0 adK adV D cy ad fr0 tx rby rnx f hT v21_l4 (by omega) _) (cwV 1 hts gX8_keystone_X8_standingWithout rfl rfl rfl (by decide +kernel) ⟨Nat.le_of_ble_eq_true rfl, Nat.le_of_ble_eq_true rfl⟩) (by decide) 8 e7 rfl rfl hl.1 rfl (Nat.le_of_ble_eq_true rfl) dX8_keystone_45 ⟨Nat.le_of_ble_eq_true rfl, Nat.le_of_ble_eq_true rfl⟩ (fun r f H locs hw hP hD hS => ?_)
          obtain ⟨hrs, hT⟩ := hw
          obtain ⟨x22, rfl⟩ : ∃ q, q = r := ⟨_, rfl⟩
          have h23 := hrs
          refine lv_aload_n hx hb dX8_keystone_48 rfl (lv_at hl 3 rfl) ?_
          obtain ⟨t24, x26, x27, e29, h25, h28⟩ := (show okX8 ad tx 0 (f 0) from hT.1 0 (by decide))
          refine va_get (D := D) (cl := vwCl) (ci := 8) (v := .ref (ad t24)) (C := RX8) (T := TX8) (N := 13) hx hb hts in_X8_keystone_X8 hown hK hP 0 (wl_at (by decide) e29) rfl 1 (by decide) (hts (.fieldLink RX8 19 "EightReasons" "told" "LEightReasons$Suit;") (List.mem_of_getElem? (i := 1) rfl)) (fun _ h9 => h9) rfl dX8_keystone_49 ?_
          obtain ⟨x30, x32, x33, x35, x36, e37, h31, h34⟩ := (ty_suit hT h25)
          refine tVI (As := []) (rest := [.int x22]) (i := t24) ⟨hx, hb, hml, hown, hts⟩ hK hE hP hD hS hA hAB (s_X5_claims_0 l B0 adK adV D cy ad fr0 tx rby rnx f hT t24 h25 _) (cwV 0 hts gX8_keystone_X5_claims rfl rfl rfl (by decide +kernel) ⟨Nat.le_of_ble_eq_true rfl, Nat.le_of_ble_eq_true rfl⟩) (x_lt (x_suit0 h25)) 5 e37 rfl rfl hl.1 rfl (Nat.le_of_ble_eq_true rfl) dX8_keystone_52 ⟨Nat.le_of_ble_eq_true rfl, Nat.le_of_ble_eq_true rfl⟩ (fun r g H locs hw hP hD hS => ?_)
          obtain ⟨hrs, rfl⟩ := hw
          obtain ⟨x38, rfl⟩ : ∃ q, q = r := ⟨_, rfl⟩
          have h39 := hrs
          refine lv_iand hx hb dX8_keystone_55 ?_
          refine lv_topi (fun x40 ex40 => ?_)
          have hx40 := r_andr ex40 (by omega)
          refine tSI (As := [.int x40]) (rest := []) ⟨hx, hb, hml, hown, hts⟩ hK hE hP hD hS hA hAB (s_J6_bitCount_0f7a4_0 l B0 adK adV D cy ad f x40 _) (va_cwS 1 hts gX8_keystone_J6_bitCount_0f7a4 rfl rfl rfl (by decide +kernel) ⟨Nat.le_of_ble_eq_true rfl, Nat.le_of_ble_eq_true rfl⟩) rfl hl.1 rfl (Nat.le_of_ble_eq_true rfl) dX8_keystone_56 ⟨Nat.le_of_ble_eq_true rfl, Nat.le_of_ble_eq_true rfl⟩ (fun r g H locs hw hP hD hS => ?_)
          obtain ⟨hrs, rfl⟩ := hw
          obtain ⟨x41, rfl⟩ : ∃ q, q = r := ⟨_, rfl⟩
          have h42 := hrs
          refine lv_istore (lv' := [(5, .int x41), (4, .int v21_l4), (3, .int v21_l3), (2, .int v21_l2), (0, .ref (ad 0)), (1, .int p1)]) hx hb dX8_keystone_59 hl (by decide) rfl (fun ls hl => ?_)
          refine lv_iload hx hb dX8_keystone_61 (lv_at hl 0 rfl) ?_
          refine lv_iload_n hx hb dX8_keystone_63 rfl (lv_at hl 2 rfl) ?_
          refine lv_icmp_ge (tgt := 73) hx hb dX8_keystone_64 (by decide) (fun c43 => ?_) (fun c43 => ?_)
          · have kc43 := c_le c43
            exact j73 f H locs ls v21_l3 v21_l2 (by omega) (by omega) (by omega) (by omega) hT hP hD hS (lv_sub hl [1, 2, 3, 4, 5] rfl)
          · have kc43 := c_nle c43
            refine lv_iload hx hb dX8_keystone_67 (lv_at hl 1 rfl) ?_
            refine lv_istore_n (lv' := [(2, .int v21_l4), (5, .int x41), (4, .int v21_l4), (3, .int v21_l3), (0, .ref (ad 0)), (1, .int p1)]) hx hb dX8_keystone_69 rfl hl (by decide) rfl (fun ls hl => ?_)
            refine lv_iload hx hb dX8_keystone_70 (lv_at hl 1 rfl) ?_
            refine lv_istore_n (lv' := [(3, .int x41), (2, .int v21_l4), (5, .int x41), (4, .int v21_l4), (0, .ref (ad 0)), (1, .int p1)]) hx hb dX8_keystone_72 rfl hl (by decide) rfl (fun ls hl => ?_)
            exact j73 f H locs ls x41 v21_l4 (by omega) (by omega) (by omega) (by omega) hT hP hD hS (lv_sub hl [3, 0, 1, 4, 5] rfl)
        · refine lv_if_eq (tgt := 73) hx hb dX8_keystone_39 (by decide) (fun _ => ?_) (fun c => absurd (by decide) c)
          exact j73 f H locs ls v21_l3 v21_l2 (by omega) (by omega) (by omega) (by omega) hT hP hD hS (lv_sub hl [0, 1, 2, 3, 4] rfl)
  refine lv_iload_n hx hb dX8_keystone_0 rfl (lv_at hl 1 rfl) ?_
  refine tSI (As := [.int p1]) (rest := []) ⟨hx, hb, hml, hown, hts⟩ hK hE hP hD hS hA hAB (s_X8_isZeroOrOne_0 l B0 adK adV D cy ad f p1 _) (va_cwS 1 hts gX8_keystone_X8_isZeroOrOne rfl rfl rfl (by decide +kernel) ⟨Nat.le_of_ble_eq_true rfl, Nat.le_of_ble_eq_true rfl⟩) rfl hl.1 rfl (Nat.le_of_ble_eq_true rfl) dX8_keystone_1 ⟨Nat.le_of_ble_eq_true rfl, Nat.le_of_ble_eq_true rfl⟩ (fun r g H locs hw hP hD hS => ?_)
  obtain ⟨hrs, rfl⟩ := hw
  obtain ⟨x44, rfl⟩ : ∃ q, q = r := ⟨_, rfl⟩
  rcases hrs with ⟨rfl, h45, h46⟩ | rfl
  · refine lv_if_ne (tgt := 9) hx hb dX8_keystone_4 (by decide) (fun _ => ?_) (fun c => absurd c (by decide))
    refine lv_aload_n hx hb dX8_keystone_9 rfl (lv_at hl 0 rfl) ?_
    obtain ⟨t47, x49, x50, e52, h48, h51⟩ := (show okX8 ad tx 0 (f 0) from hT.1 0 (by decide))
    refine tVV (As := []) (rest := []) (i := 0) ⟨hx, hb, hml, hown, hts⟩ hK hE hP hD hS hA hAB (s_X8_look_0 l B0 adK adV D cy ad fr0 tx rby rnx f hT _) (cwV 0 hts gX8_keystone_X8_look rfl rfl rfl (by decide +kernel) ⟨Nat.le_of_ble_eq_true rfl, Nat.le_of_ble_eq_true rfl⟩) (by decide) 8 e52 rfl rfl hl.1 rfl (Nat.le_of_ble_eq_true rfl) dX8_keystone_10 ⟨Nat.le_of_ble_eq_true rfl, Nat.le_of_ble_eq_true rfl⟩ (fun f H locs hw hP hD hS => ?_)
    obtain ⟨hrs, hT⟩ := hw
    refine lv_iconst (v := (-1)) hx hb dX8_keystone_13 (by decide) ?_
    refine lv_istore_n (lv' := [(2, .int (-1)), (0, .ref (ad 0)), (1, .int p1)]) hx hb dX8_keystone_14 rfl hl (by decide) rfl (fun ls hl => ?_)
    refine lv_bipush (v := 11) hx hb dX8_keystone_15 (by decide) ?_
    refine lv_istore_n (lv' := [(3, .int 11), (2, .int (-1)), (0, .ref (ad 0)), (1, .int p1)]) hx hb dX8_keystone_17 rfl hl (by decide) rfl (fun ls hl => ?_)
    refine lv_iconst (v := 0) hx hb dX8_keystone_18 (by decide) ?_
    refine lv_istore (lv' := [(4, .int 0), (3, .int 11), (2, .int (-1)), (0, .ref (ad 0)), (1, .int p1)]) hx hb dX8_keystone_19 hl (by decide) rfl (fun ls hl => ?_)
    have ttl_0 := tl_0
    have ttl_11 := tl_11
    have ttl_m1 := tl_m1
    exact j21 (Int.toNat (11 - (0 : Int32).toInt)) f H locs ls (0 : Int32) (11 : Int32) ((-1) : Int32) (by omega) (by omega) (by omega) (by omega) (by omega) hT hP hD hS (lv_sub hl [0, 1, 2, 3, 4] rfl)
  · refine lv_if_ne (tgt := 9) hx hb dX8_keystone_4 (by decide) (fun c => absurd (by decide) c) (fun _ => ?_)
    refine lv_iconst (v := (-1)) hx hb dX8_keystone_7 (by decide) ?_
    have ttl_m1 := tl_m1
    exact tI hx hb hr hlk rfl hP hS ⟨(by omega), hT⟩ dX8_keystone_8
set_option maxHeartbeats 4000000 in
set_option maxRecDepth 100000 in
theorem s_X8_holds_0 (l : Launch) (B0 : Nat) (adK adV : Nat → Nat) (D : va_G) (cy : Nat → ClassId) (ad : Nat → Nat) (fr0 : Nat → va_E) (tx : Int32) (rby : Int32) (rnx : Int32) (f : Nat → va_E) (hT : TYx ad cy fr0 tx rby rnx f) (p1 : Int32) (sz : Nat) : TtI l yX8_holds wsX8_holds 6 146 [.ref (ad 0), .int p1] B0 adK adV D cy ad f sz (fun (r : Int32) (g : Nat → va_E) => (-1 ≤ r.toInt ∧ r.toInt ≤ 1023) ∧ (TYx ad cy fr0 tx rby rnx g)) := by
  refine TtI.of (cc := cX8_holds) (maxL := 3) (ty := .int) (own := RX8) (by decide) rfl (Nat.le_of_ble_eq_true rfl) rfl ?_
  intro p e s m below meth c A ls hx hb hr hml hts hown hlk hK hE hP hD hS hA hAB hl
  have hl : lv_has ls 3 [(0, .ref (ad 0)), (1, .int p1)] := hl
  refine st0 (fun H locs hP hS => ?_) hP hS
  refine lv_aload_n hx hb dX8_holds_0 rfl (lv_at hl 0 rfl) ?_
  refine lv_iload_n hx hb dX8_holds_1 rfl (lv_at hl 1 rfl) ?_
  obtain ⟨t1, x3, x4, e6, h2, h5⟩ := (show okX8 ad tx 0 (f 0) from hT.1 0 (by decide))
  refine tVI (As := [.int p1]) (rest := []) (i := 0) ⟨hx, hb, hml, hown, hts⟩ hK hE hP hD hS hA hAB (s_X8_isProved_0 l B0 adK adV D cy ad fr0 tx rby rnx f hT p1 _) (cwV 1 hts gX8_holds_X8_isProved rfl rfl rfl (by decide +kernel) ⟨Nat.le_of_ble_eq_true rfl, Nat.le_of_ble_eq_true rfl⟩) (by decide) 8 e6 rfl rfl hl.1 rfl (Nat.le_of_ble_eq_true rfl) dX8_holds_2 ⟨Nat.le_of_ble_eq_true rfl, Nat.le_of_ble_eq_true rfl⟩ (fun r g H locs hw hP hD hS => ?_)
  obtain ⟨hrs, rfl⟩ := hw
  obtain ⟨x7, rfl⟩ : ∃ q, q = r := ⟨_, rfl⟩
  rcases hrs with ⟨rfl, h8, h9⟩ | rfl
  · refine lv_if_ne (tgt := 10) hx hb dX8_holds_5 (by decide) (fun _ => ?_) (fun c => absurd c (by decide))
    refine lv_aload_n hx hb dX8_holds_10 rfl (lv_at hl 0 rfl) ?_
    refine tVI (As := []) (rest := []) (i := 0) ⟨hx, hb, hml, hown, hts⟩ hK hE hP hD hS hA hAB (s_X8_standingNow_0 l B0 adK adV D cy ad fr0 tx rby rnx f hT _) (cwV 0 hts gX8_holds_X8_standingNow rfl rfl rfl (by decide +kernel) ⟨Nat.le_of_ble_eq_true rfl, Nat.le_of_ble_eq_true rfl⟩) (by decide) 8 e6 rfl rfl hl.1 rfl (Nat.le_of_ble_eq_true rfl) dX8_holds_11 ⟨Nat.le_of_ble_eq_true rfl, Nat.le_of_ble_eq_true rfl⟩ (fun r f H locs hw hP hD hS => ?_)
    obtain ⟨hrs, hT⟩ := hw
    obtain ⟨x10, rfl⟩ : ∃ q, q = r := ⟨_, rfl⟩
    have h11 := hrs
    refine lv_istore_n (lv' := [(2, .int x10), (0, .ref (ad 0)), (1, .int p1)]) hx hb dX8_holds_14 rfl hl (by decide) rfl (fun ls hl => ?_)
    refine lv_iload_n hx hb dX8_holds_15 rfl (lv_at hl 0 rfl) ?_
    refine lv_aload_n hx hb dX8_holds_16 rfl (lv_at hl 1 rfl) ?_
    refine lv_iload_n hx hb dX8_holds_17 rfl (lv_at hl 2 rfl) ?_
    obtain ⟨t12, x14, x15, e17, h13, h16⟩ := (show okX8 ad tx 0 (f 0) from hT.1 0 (by decide))
    refine tVI (As := [.int p1]) (rest := [.int x10]) (i := 0) ⟨hx, hb, hml, hown, hts⟩ hK hE hP hD hS hA hAB (s_X8_standingWithout_0 l B0 adK adV D cy ad fr0 tx rby rnx f hT p1 (by omega) _) (cwV 1 hts gX8_holds_X8_standingWithout rfl rfl rfl (by decide +kernel) ⟨Nat.le_of_ble_eq_true rfl, Nat.le_of_ble_eq_true rfl⟩) (by decide) 8 e17 rfl rfl hl.1 rfl (Nat.le_of_ble_eq_true rfl) dX8_holds_18 ⟨Nat.le_of_ble_eq_true rfl, Nat.le_of_ble_eq_true rfl⟩ (fun r f H locs hw hP hD hS => ?_)
    obtain ⟨hrs, hT⟩ := hw
    obtain ⟨x18, rfl⟩ : ∃ q, q = r := ⟨_, rfl⟩
    have h19 := hrs
    refine lv_iconst (v := (-1)) hx hb dX8_holds_21 (by decide) ?_
    refine lv_ixor hx hb dX8_holds_22 ?_
    refine lv_topi (fun x20 ex20 => ?_)
    refine lv_iand hx hb dX8_holds_23 ?_
    refine lv_topi (fun x21 ex21 => ?_)
    refine lv_aload_n hx hb dX8_holds_24 rfl (lv_at hl 1 rfl) ?_
    obtain ⟨t22, x24, x25, e27, h23, h26⟩ := (show okX8 ad tx 0 (f 0) from hT.1 0 (by decide))
    refine va_get (D := D) (cl := vwCl) (ci := 8) (v := .ref (ad t22)) (C := RX8) (T := TX8) (N := 13) hx hb hts in_X8_holds_X8 hown hK hP 0 (wl_at (by decide) e27) rfl 1 (by decide) (hts (.fieldLink RX8 19 "EightReasons" "told" "LEightReasons$Suit;") (List.mem_of_getElem? (i := 1) rfl)) (fun _ h9 => h9) rfl dX8_holds_25 ?_
    obtain ⟨x28, x30, x31, x33, x34, e35, h29, h32⟩ := (ty_suit hT h23)
    refine tVI (As := []) (rest := [.int x21]) (i := t22) ⟨hx, hb, hml, hown, hts⟩ hK hE hP hD hS hA hAB (s_X5_claims_0 l B0 adK adV D cy ad fr0 tx rby rnx f hT t22 h23 _) (cwV 0 hts gX8_holds_X5_claims rfl rfl rfl (by decide +kernel) ⟨Nat.le_of_ble_eq_true rfl, Nat.le_of_ble_eq_true rfl⟩) (x_lt (x_suit0 h23)) 5 e35 rfl rfl hl.1 rfl (Nat.le_of_ble_eq_true rfl) dX8_holds_28 ⟨Nat.le_of_ble_eq_true rfl, Nat.le_of_ble_eq_true rfl⟩ (fun r g H locs hw hP hD hS => ?_)
    obtain ⟨hrs, rfl⟩ := hw
    obtain ⟨x36, rfl⟩ : ∃ q, q = r := ⟨_, rfl⟩
    have h37 := hrs
    refine lv_iand hx hb dX8_holds_31 ?_
    refine lv_topi (fun x38 ex38 => ?_)
    have hx38 := r_andr ex38 (by omega)
    exact tI hx hb hr hlk rfl hP hS ⟨(by omega), hT⟩ dX8_holds_32
  · refine lv_if_ne (tgt := 10) hx hb dX8_holds_5 (by decide) (fun c => absurd (by decide) c) (fun _ => ?_)
    refine lv_iconst (v := (-1)) hx hb dX8_holds_8 (by decide) ?_
    have ttl_m1 := tl_m1
    exact tI hx hb hr hlk rfl hP hS ⟨(by omega), hT⟩ dX8_holds_9
set_option maxHeartbeats 4000000 in
set_option maxRecDepth 100000 in
theorem s_X8_spare_0 (l : Launch) (B0 : Nat) (adK adV : Nat → Nat) (D : va_G) (cy : Nat → ClassId) (ad : Nat → Nat) (fr0 : Nat → va_E) (tx : Int32) (rby : Int32) (rnx : Int32) (f : Nat → va_E) (hT : TYx ad cy fr0 tx rby rnx f) (sz : Nat) : TtI l yX8_spare wsX8_spare 6 144 [.ref (ad 0)] B0 adK adV D cy ad f sz (fun (r : Int32) (g : Nat → va_E) => (0 ≤ r.toInt ∧ r.toInt ≤ 4095) ∧ (TYx ad cy fr0 tx rby rnx g)) := by
  refine TtI.of (cc := cX8_spare) (maxL := 5) (ty := .int) (own := RX8) (by decide) rfl (Nat.le_of_ble_eq_true rfl) rfl ?_
  intro p e s m below meth c A ls hx hb hr hml hts hown hlk hK hE hP hD hS hA hAB hl
  have hl : lv_has ls 5 [(0, .ref (ad 0))] := hl
  refine st0 (fun H locs hP hS => ?_) hP hS
  have j18 : ∀ (N : Nat) (f : Nat → va_E) (H : Heap) (locs : List Loc) (ls : Array Slot) (v18_l4 : Int32) (v18_l3 : Int32) (v18_l2 : Int32) (v18_l1 : Int32), (13 - v18_l4.toInt ≤ (N : Int)) → (0 ≤ v18_l4.toInt ∧ v18_l4.toInt ≤ 12) → (0 ≤ v18_l3.toInt ∧ v18_l3.toInt ≤ 4095) → (0 ≤ v18_l2.toInt ∧ v18_l2.toInt ≤ 4095) → (TYx ad cy fr0 tx rby rnx f) → (va_P D vwCl (wl ad f) H) → (va_D A (wl ad f)) → (va_S A s.heap H locs) → (lv_has ls 5 [(4, .int v18_l4), (3, .int v18_l3), (2, .int v18_l2), (1, .int v18_l1), (0, .ref (ad 0))]) → W p l e (rmO 6 144 0 0) s m ([.ref (ad 0)] : List Value).toArray below meth c H locs 0 0 (MQ below (va_Qi (fun (r : Int32) (g : Nat → va_E) => (0 ≤ r.toInt ∧ r.toInt ≤ 4095) ∧ (TYx ad cy fr0 tx rby rnx g)) (fun g t => PstT D ad g t) A) ([.ref (ad 0)] : List Value).toArray s 0 0 A) (F0 m 18 ls []) := by
    intro N
    induction N with
    | zero => intro f H locs ls v18_l4 v18_l3 v18_l2 v18_l1 hN hv18_l4 hv18_l3 hv18_l2 hT hP hD hS hl; exact absurd hN (by omega)
    | succ N ih18 =>
      intro f H locs ls v18_l4 v18_l3 v18_l2 v18_l1 hN hv18_l4 hv18_l3 hv18_l2 hT hP hD hS hl
      have j63 : ∀ (f : Nat → va_E) (H : Heap) (locs : List Loc) (ls : Array Slot) (v63_l3 : Int32), (0 ≤ v18_l4.toInt ∧ v18_l4.toInt ≤ 11) → (0 ≤ v63_l3.toInt ∧ v63_l3.toInt ≤ 4095) → (0 ≤ v18_l2.toInt ∧ v18_l2.toInt ≤ 4095) → (TYx ad cy fr0 tx rby rnx f) → (va_P D vwCl (wl ad f) H) → (va_D A (wl ad f)) → (va_S A s.heap H locs) → (lv_has ls 5 [(4, .int v18_l4), (3, .int v63_l3), (2, .int v18_l2), (1, .int v18_l1), (0, .ref (ad 0))]) → W p l e (rmO 6 144 0 0) s m ([.ref (ad 0)] : List Value).toArray below meth c H locs 0 0 (MQ below (va_Qi (fun (r : Int32) (g : Nat → va_E) => (0 ≤ r.toInt ∧ r.toInt ≤ 4095) ∧ (TYx ad cy fr0 tx rby rnx g)) (fun g t => PstT D ad g t) A) ([.ref (ad 0)] : List Value).toArray s 0 0 A) (F0 m 63 ls []) := by
        intro f H locs ls v63_l3 hv63_l4 hv63_l3 hv63_l2 hT hP hD hS hl
        obtain ⟨x1, ex1⟩ : ∃ q : Int32, q = v18_l4 + Int32.ofInt (1) := ⟨_, rfl⟩
        refine lv_iinc (v := x1) (lv' := [(4, .int x1), (3, .int v63_l3), (2, .int v18_l2), (1, .int v18_l1), (0, .ref (ad 0))]) hx hb dX8_spare_63 hl (k := 0) rfl ex1.symm (by decide) rfl (fun ls hl => ?_)
        have hx1 := r_inc ex1 (by decide) (by omega) (by omega)
        refine lv_goto (tgt := 18) hx hb dX8_spare_66 (by decide) ?_
        exact ih18 f H locs ls x1 v63_l3 v18_l2 v18_l1 (by omega) (by omega) (by omega) (by omega) hT hP hD hS (lv_sub hl [0, 1, 2, 3, 4] rfl)
      refine lv_iload hx hb dX8_spare_18 (lv_at hl 0 rfl) ?_
      refine lv_aload_n hx hb dX8_spare_20 rfl (lv_at hl 4 rfl) ?_
      obtain ⟨t2, x4, x5, e7, h3, h6⟩ := (show okX8 ad tx 0 (f 0) from hT.1 0 (by decide))
      refine va_get (D := D) (cl := vwCl) (ci := 8) (v := .ref (ad t2)) (C := RX8) (T := TX8) (N := 13) hx hb hts in_X8_spare_X8 hown hK hP 0 (wl_at (by decide) e7) rfl 1 (by decide) (hts (.fieldLink RX8 19 "EightReasons" "told" "LEightReasons$Suit;") (List.mem_of_getElem? (i := 2) rfl)) (fun _ h9 => h9) rfl dX8_spare_21 ?_
      obtain ⟨x8, x10, x11, x13, x14, e15, h9, h12⟩ := (ty_suit hT h3)
      refine va_get (D := D) (cl := vwCl) (ci := 5) (v := .int x11) (C := RX5) (T := TX5) (N := 12) hx hb hts in_X8_spare_X5 hown hK hP t2 (wl_at (x_lt (x_suit0 h3)) e15) rfl 2 (by decide) (hts (.fieldLink RX8 157 "EightReasons$Suit" "strands" "I") (List.mem_of_getElem? (i := 3) rfl)) (fun _ h9 => h9) rfl dX8_spare_24 ?_
      refine lv_icmp_ge (tgt := 69) hx hb dX8_spare_27 (by decide) (fun c16 => ?_) (fun c16 => ?_)
      · have kc16 := c_le c16
        refine lv_iload_n hx hb dX8_spare_69 rfl (lv_at hl 1 rfl) ?_
        exact tI hx hb hr hlk rfl hP hS ⟨(by omega), hT⟩ dX8_spare_70
      · have kc16 := c_nle c16
        refine lv_iload_n hx hb dX8_spare_30 rfl (lv_at hl 2 rfl) ?_
        refine lv_iload hx hb dX8_spare_31 (lv_at hl 0 rfl) ?_
        refine tSI (As := [.int v18_l2, .int v18_l4]) (rest := []) ⟨hx, hb, hml, hown, hts⟩ hK hE hP hD hS hA hAB (s_X8_has_0 l B0 adK adV D cy ad f v18_l2 v18_l4 _) (va_cwS 2 hts gX8_spare_X8_has rfl rfl rfl (by decide +kernel) ⟨Nat.le_of_ble_eq_true rfl, Nat.le_of_ble_eq_true rfl⟩) rfl hl.1 rfl (Nat.le_of_ble_eq_true rfl) dX8_spare_33 ⟨Nat.le_of_ble_eq_true rfl, Nat.le_of_ble_eq_true rfl⟩ (fun r g H locs hw hP hD hS => ?_)
        obtain ⟨hrs, rfl⟩ := hw
        obtain ⟨x17, rfl⟩ : ∃ q, q = r := ⟨_, rfl⟩
        rcases hrs with rfl | rfl
        · refine lv_if_eq (tgt := 63) hx hb dX8_spare_36 (by decide) (fun c => absurd c (by decide)) (fun _ => ?_)
          refine lv_aload_n hx hb dX8_spare_39 rfl (lv_at hl 4 rfl) ?_
          refine va_get (D := D) (cl := vwCl) (ci := 8) (v := .ref (ad 10)) (C := RX8) (T := TX8) (N := 13) hx hb hts in_X8_spare_X8 hown hK hP 0 (wl_at (by decide) e7) rfl 6 (by decide) (hts (.fieldLink RX8 44 "EightReasons" "loom" "LEightReasons$Loom;") (List.mem_of_getElem? (i := 4) rfl)) (fun _ h9 => h9) rfl dX8_spare_40 ?_
          refine lv_iload_n hx hb dX8_spare_43 rfl (lv_at hl 2 rfl) ?_
          refine lv_iconst (v := 1) hx hb dX8_spare_44 (by decide) ?_
          refine lv_iload hx hb dX8_spare_45 (lv_at hl 0 rfl) ?_
          refine lv_ishl hx hb dX8_spare_47 ?_
          refine lv_topi (fun x18 ex18 => ?_)
          have hx18 := r_shl (K := 11) (M := 2048) ex18 (by decide) (by decide) (by omega) (by omega)
          refine lv_ixor hx hb dX8_spare_48 ?_
          refine lv_topi (fun x19 ex19 => ?_)
          have hx19 := r_xor (k := 12) (K := 4096) ex19 (by decide) (by decide) (by omega) (by omega) (by omega) (by omega)
          obtain ⟨x20, t21, x23, x24, e25, h22⟩ := (show okX2 ad 10 (f 10) from hT.1 10 (by decide))
          refine tVI (As := [.int x19]) (rest := []) (i := 10) ⟨hx, hb, hml, hown, hts⟩ hK hE hP hD hS hA hAB (s_X2_standing_0 l B0 adK adV D cy ad fr0 tx rby rnx f hT x19 _) (cwV 1 hts gX8_spare_X2_standing rfl rfl rfl (by decide +kernel) ⟨Nat.le_of_ble_eq_true rfl, Nat.le_of_ble_eq_true rfl⟩) (by decide) 2 e25 rfl rfl hl.1 rfl (Nat.le_of_ble_eq_true rfl) dX8_spare_49 ⟨Nat.le_of_ble_eq_true rfl, Nat.le_of_ble_eq_true rfl⟩ (fun r f H locs hw hP hD hS => ?_)
          obtain ⟨hrs, hT⟩ := hw
          obtain ⟨x26, rfl⟩ : ∃ q, q = r := ⟨_, rfl⟩
          have h27 := hrs
          refine lv_iload_n hx hb dX8_spare_52 rfl (lv_at hl 3 rfl) ?_
          refine lv_icmp_ne (tgt := 63) hx hb dX8_spare_53 (by decide) (fun c28 => ?_) (fun c28 => ?_)
          · have kc28 := c_ne c28
            exact j63 f H locs ls v18_l3 (by omega) (by omega) (by omega) hT hP hD hS (lv_sub hl [0, 1, 2, 3, 4] rfl)
          · have kc28 := c_eq c28
            refine lv_iload_n hx hb dX8_spare_56 rfl (lv_at hl 1 rfl) ?_
            refine lv_iconst (v := 1) hx hb dX8_spare_57 (by decide) ?_
            refine lv_iload hx hb dX8_spare_58 (lv_at hl 0 rfl) ?_
            refine lv_ishl hx hb dX8_spare_60 ?_
            refine lv_topi (fun x29 ex29 => ?_)
            have hx29 := r_shl (K := 11) (M := 2048) ex29 (by decide) (by decide) (by omega) (by omega)
            refine lv_ior hx hb dX8_spare_61 ?_
            refine lv_topi (fun x30 ex30 => ?_)
            have hx30 := r_or (k := 12) (K := 4096) ex30 (by decide) (by decide) (by omega) (by omega) (by omega) (by omega)
            refine lv_istore_n (lv' := [(3, .int x30), (4, .int v18_l4), (2, .int v18_l2), (1, .int v18_l1), (0, .ref (ad 0))]) hx hb dX8_spare_62 rfl hl (by decide) rfl (fun ls hl => ?_)
            exact j63 f H locs ls x30 (by omega) (by omega) (by omega) hT hP hD hS (lv_sub hl [1, 0, 2, 3, 4] rfl)
        · refine lv_if_eq (tgt := 63) hx hb dX8_spare_36 (by decide) (fun _ => ?_) (fun c => absurd (by decide) c)
          exact j63 f H locs ls v18_l3 (by omega) (by omega) (by omega) hT hP hD hS (lv_sub hl [0, 1, 2, 3, 4] rfl)
  refine lv_aload_n hx hb dX8_spare_0 rfl (lv_at hl 0 rfl) ?_
  obtain ⟨t31, x33, x34, e36, h32, h35⟩ := (show okX8 ad tx 0 (f 0) from hT.1 0 (by decide))
  refine tVI (As := []) (rest := []) (i := 0) ⟨hx, hb, hml, hown, hts⟩ hK hE hP hD hS hA hAB (s_X8_standingNow_0 l B0 adK adV D cy ad fr0 tx rby rnx f hT _) (cwV 0 hts gX8_spare_X8_standingNow rfl rfl rfl (by decide +kernel) ⟨Nat.le_of_ble_eq_true rfl, Nat.le_of_ble_eq_true rfl⟩) (by decide) 8 e36 rfl rfl hl.1 rfl (Nat.le_of_ble_eq_true rfl) dX8_spare_1 ⟨Nat.le_of_ble_eq_true rfl, Nat.le_of_ble_eq_true rfl⟩ (fun r f H locs hw hP hD hS => ?_)
  obtain ⟨hrs, hT⟩ := hw
  obtain ⟨x37, rfl⟩ : ∃ q, q = r := ⟨_, rfl⟩
  have h38 := hrs
  refine lv_istore_n (lv' := [(1, .int x37), (0, .ref (ad 0))]) hx hb dX8_spare_4 rfl hl (by decide) rfl (fun ls hl => ?_)
  refine lv_aload_n hx hb dX8_spare_5 rfl (lv_at hl 1 rfl) ?_
  obtain ⟨t39, x41, x42, e44, h40, h43⟩ := (show okX8 ad tx 0 (f 0) from hT.1 0 (by decide))
  refine tVR (As := []) (rest := []) (i := 0) ⟨hx, hb, hml, hown, hts⟩ hK hE hP hD hS hA hAB (s_X8_now_0 l B0 adK adV D cy ad fr0 tx rby rnx f hT _) (cwV 0 hts gX8_spare_X8_now rfl rfl rfl (by decide +kernel) ⟨Nat.le_of_ble_eq_true rfl, Nat.le_of_ble_eq_true rfl⟩) (by decide) 8 e44 rfl rfl hl.1 rfl (Nat.le_of_ble_eq_true rfl) dX8_spare_6 ⟨Nat.le_of_ble_eq_true rfl, Nat.le_of_ble_eq_true rfl⟩ (fun ra g H locs hw hra hP hD hS => ?_)
  obtain ⟨hrs, rfl⟩ := hw
  obtain ⟨t45, h46, rfl⟩ := hra
  obtain ⟨x47, x49, x50, x51, e52, h48⟩ := (ty_state hT h46)
  refine va_get (D := D) (cl := vwCl) (ci := 4) (v := .int x47) (C := RX4) (T := TX4) (N := 5) hx hb hts in_X8_spare_X4 hown hK hP t45 (wl_at (x_lt (x_state0 h46)) e52) rfl 1 (by decide) (hts (.fieldLink RX8 145 "EightReasons$State" "tied" "I") (List.mem_of_getElem? (i := 1) rfl)) (fun _ h9 => h9) rfl dX8_spare_9 ?_
  refine lv_istore_n (lv' := [(2, .int x47), (1, .int x37), (0, .ref (ad 0))]) hx hb dX8_spare_12 rfl hl (by decide) rfl (fun ls hl => ?_)
  refine lv_iconst (v := 0) hx hb dX8_spare_13 (by decide) ?_
  refine lv_istore_n (lv' := [(3, .int 0), (2, .int x47), (1, .int x37), (0, .ref (ad 0))]) hx hb dX8_spare_14 rfl hl (by decide) rfl (fun ls hl => ?_)
  refine lv_iconst (v := 0) hx hb dX8_spare_15 (by decide) ?_
  refine lv_istore (lv' := [(4, .int 0), (3, .int 0), (2, .int x47), (1, .int x37), (0, .ref (ad 0))]) hx hb dX8_spare_16 hl (by decide) rfl (fun ls hl => ?_)
  have ttl_0 := tl_0
  exact j18 (Int.toNat (13 - (0 : Int32).toInt)) f H locs ls (0 : Int32) (0 : Int32) x47 x37 (by omega) (by omega) (by omega) (by omega) hT hP hD hS (lv_sub hl [0, 1, 2, 3, 4] rfl)
set_option maxHeartbeats 4000000 in
set_option maxRecDepth 100000 in
theorem s_X8_firmest_0 (l : Launch) (B0 : Nat) (adK adV : Nat → Nat) (D : va_G) (cy : Nat → ClassId) (ad : Nat → Nat) (fr0 : Nat → va_E) (tx : Int32) (rby : Int32) (rnx : Int32) (f : Nat → va_E) (hT : TYx ad cy fr0 tx rby rnx f) (p1 : Int32) (sz : Nat) : TtI l yX8_firmest wsX8_firmest 6 144 [.ref (ad 0), .int p1] B0 adK adV D cy ad f sz (fun (r : Int32) (g : Nat → va_E) => True ∧ (TYx ad cy fr0 tx rby rnx g)) := by
  refine TtI.of (cc := cX8_firmest) (maxL := 6) (ty := .int) (own := RX8) (by decide) rfl (Nat.le_of_ble_eq_true rfl) rfl ?_
  intro p e s m below meth c A ls hx hb hr hml hts hown hlk hK hE hP hD hS hA hAB hl
  have hl : lv_has ls 6 [(0, .ref (ad 0)), (1, .int p1)] := hl
  refine st0 (fun H locs hP hS => ?_) hP hS
  have j22 : ∀ (N : Nat) (f : Nat → va_E) (H : Heap) (locs : List Loc) (ls : Array Slot) (v22_l5 : Int32) (v22_l4 : Int32) (v22_l3 : Int32) (v22_l2 : Int32), (11 - v22_l5.toInt ≤ (N : Int)) → (0 ≤ v22_l5.toInt ∧ v22_l5.toInt ≤ 10) → (-1 ≤ v22_l3.toInt ∧ v22_l3.toInt ≤ 9) → (0 ≤ p1.toInt ∧ p1.toInt ≤ 1) → (TYx ad cy fr0 tx rby rnx f) → (va_P D vwCl (wl ad f) H) → (va_D A (wl ad f)) → (va_S A s.heap H locs) → (lv_has ls 6 [(5, .int v22_l5), (4, .int v22_l4), (3, .int v22_l3), (2, .int v22_l2), (0, .ref (ad 0)), (1, .int p1)]) → W p l e (rmO 6 144 0 0) s m ([.ref (ad 0), .int p1] : List Value).toArray below meth c H locs 0 0 (MQ below (va_Qi (fun (r : Int32) (g : Nat → va_E) => True ∧ (TYx ad cy fr0 tx rby rnx g)) (fun g t => PstT D ad g t) A) ([.ref (ad 0), .int p1] : List Value).toArray s 0 0 A) (F0 m 22 ls []) := by
    intro N
    induction N with
    | zero => intro f H locs ls v22_l5 v22_l4 v22_l3 v22_l2 hN hv22_l5 hv22_l3 hv22_l1 hT hP hD hS hl; exact absurd hN (by omega)
    | succ N ih22 =>
      intro f H locs ls v22_l5 v22_l4 v22_l3 v22_l2 hN hv22_l5 hv22_l3 hv22_l1 hT hP hD hS hl
      have j83 : ∀ (f : Nat → va_E) (H : Heap) (locs : List Loc) (ls : Array Slot) (v83_l4 : Int32) (v83_l3 : Int32), (0 ≤ v22_l5.toInt ∧ v22_l5.toInt ≤ 9) → (-1 ≤ v83_l3.toInt ∧ v83_l3.toInt ≤ 9) → (0 ≤ p1.toInt ∧ p1.toInt ≤ 1) → (TYx ad cy fr0 tx rby rnx f) → (va_P D vwCl (wl ad f) H) → (va_D A (wl ad f)) → (va_S A s.heap H locs) → (lv_has ls 6 [(5, .int v22_l5), (4, .int v83_l4), (3, .int v83_l3), (2, .int v22_l2), (0, .ref (ad 0)), (1, .int p1)]) → W p l e (rmO 6 144 0 0) s m ([.ref (ad 0), .int p1] : List Value).toArray below meth c H locs 0 0 (MQ below (va_Qi (fun (r : Int32) (g : Nat → va_E) => True ∧ (TYx ad cy fr0 tx rby rnx g)) (fun g t => PstT D ad g t) A) ([.ref (ad 0), .int p1] : List Value).toArray s 0 0 A) (F0 m 83 ls []) := by
        intro f H locs ls v83_l4 v83_l3 hv83_l5 hv83_l3 hv83_l1 hT hP hD hS hl
        obtain ⟨x1, ex1⟩ : ∃ q : Int32, q = v22_l5 + Int32.ofInt (1) := ⟨_, rfl⟩
        refine lv_iinc (v := x1) (lv' := [(5, .int x1), (4, .int v83_l4), (3, .int v83_l3), (2, .int v22_l2), (0, .ref (ad 0)), (1, .int p1)]) hx hb dX8_firmest_83 hl (k := 0) rfl ex1.symm (by decide) rfl (fun ls hl => ?_)
        have hx1 := r_inc ex1 (by decide) (by omega) (by omega)
        refine lv_goto (tgt := 22) hx hb dX8_firmest_86 (by decide) ?_
        exact ih22 f H locs ls x1 v83_l4 v83_l3 v22_l2 (by omega) (by omega) (by omega) (by omega) hT hP hD hS (lv_sub hl [0, 1, 2, 3, 4, 5] rfl)
      refine lv_iload hx hb dX8_firmest_22 (lv_at hl 0 rfl) ?_
      refine lv_aload_n hx hb dX8_firmest_24 rfl (lv_at hl 4 rfl) ?_
      obtain ⟨t2, x4, x5, e7, h3, h6⟩ := (show okX8 ad tx 0 (f 0) from hT.1 0 (by decide))
      refine va_get (D := D) (cl := vwCl) (ci := 8) (v := .ref (ad t2)) (C := RX8) (T := TX8) (N := 13) hx hb hts in_X8_firmest_X8 hown hK hP 0 (wl_at (by decide) e7) rfl 1 (by decide) (hts (.fieldLink RX8 19 "EightReasons" "told" "LEightReasons$Suit;") (List.mem_of_getElem? (i := 1) rfl)) (fun _ h9 => h9) rfl dX8_firmest_25 ?_
      obtain ⟨x8, x10, x11, x13, x14, e15, h9, h12⟩ := (ty_suit hT h3)
      refine va_get (D := D) (cl := vwCl) (ci := 5) (v := .int x8) (C := RX5) (T := TX5) (N := 12) hx hb hts in_X8_firmest_X5 hown hK hP t2 (wl_at (x_lt (x_suit0 h3)) e15) rfl 0 (by decide) (hts (.fieldLink RX8 105 "EightReasons$Suit" "points" "I") (List.mem_of_getElem? (i := 2) rfl)) (fun _ h9 => h9) rfl dX8_firmest_28 ?_
      refine lv_icmp_ge (tgt := 89) hx hb dX8_firmest_31 (by decide) (fun c16 => ?_) (fun c16 => ?_)
      · have kc16 := c_le c16
        refine lv_iload_n hx hb dX8_firmest_89 rfl (lv_at hl 5 rfl) ?_
        have ttl_0 := tl_0
        refine lv_if_ne (tgt := 97) hx hb dX8_firmest_90 (by decide) (fun c17 => ?_) (fun c17 => ?_)
        · have kc17 := c_ne c17
          refine lv_iload hx hb dX8_firmest_97 (lv_at hl 1 rfl) ?_
          exact tI hx hb hr hlk rfl hP hS ⟨trivial, hT⟩ dX8_firmest_99
        · have kc17 := c_eq c17
          refine lv_iload_n hx hb dX8_firmest_93 rfl (lv_at hl 2 rfl) ?_
          refine lv_goto (tgt := 99) hx hb dX8_firmest_94 (by decide) ?_
          exact tI hx hb hr hlk rfl hP hS ⟨trivial, hT⟩ dX8_firmest_99
      · have kc16 := c_nle c16
        refine lv_aload_n hx hb dX8_firmest_34 rfl (lv_at hl 4 rfl) ?_
        refine va_get (D := D) (cl := vwCl) (ci := 8) (v := .ref (ad t2)) (C := RX8) (T := TX8) (N := 13) hx hb hts in_X8_firmest_X8 hown hK hP 0 (wl_at (by decide) e7) rfl 1 (by decide) (hts (.fieldLink RX8 19 "EightReasons" "told" "LEightReasons$Suit;") (List.mem_of_getElem? (i := 1) rfl)) (fun _ h9 => h9) rfl dX8_firmest_35 ?_
        refine lv_iload hx hb dX8_firmest_38 (lv_at hl 0 rfl) ?_
        refine tVI (As := [.int v22_l5]) (rest := []) (i := t2) ⟨hx, hb, hml, hown, hts⟩ hK hE hP hD hS hA hAB (s_X5_isClaim_0 l B0 adK adV D cy ad fr0 tx rby rnx f hT t2 h3 v22_l5 _) (cwV 1 hts gX8_firmest_X5_isClaim rfl rfl rfl (by decide +kernel) ⟨Nat.le_of_ble_eq_true rfl, Nat.le_of_ble_eq_true rfl⟩) (x_lt (x_suit0 h3)) 5 e15 rfl rfl hl.1 rfl (Nat.le_of_ble_eq_true rfl) dX8_firmest_40 ⟨Nat.le_of_ble_eq_true rfl, Nat.le_of_ble_eq_true rfl⟩ (fun r g H locs hw hP hD hS => ?_)
        obtain ⟨hrs, rfl⟩ := hw
        obtain ⟨x18, rfl⟩ : ∃ q, q = r := ⟨_, rfl⟩
        rcases hrs with ⟨rfl, h19, h20⟩ | rfl
        · refine lv_if_eq (tgt := 83) hx hb dX8_firmest_43 (by decide) (fun c => absurd c (by decide)) (fun _ => ?_)
          refine lv_iload_n hx hb dX8_firmest_46 rfl (lv_at hl 3 rfl) ?_
          refine lv_iload hx hb dX8_firmest_47 (lv_at hl 0 rfl) ?_
          refine tSI (As := [.int v22_l2, .int v22_l5]) (rest := []) ⟨hx, hb, hml, hown, hts⟩ hK hE hP hD hS hA hAB (s_X8_has_0 l B0 adK adV D cy ad f v22_l2 v22_l5 _) (va_cwS 2 hts gX8_firmest_X8_has rfl rfl rfl (by decide +kernel) ⟨Nat.le_of_ble_eq_true rfl, Nat.le_of_ble_eq_true rfl⟩) rfl hl.1 rfl (Nat.le_of_ble_eq_true rfl) dX8_firmest_49 ⟨Nat.le_of_ble_eq_true rfl, Nat.le_of_ble_eq_true rfl⟩ (fun r g H locs hw hP hD hS => ?_)
          obtain ⟨hrs, rfl⟩ := hw
          obtain ⟨x21, rfl⟩ : ∃ q, q = r := ⟨_, rfl⟩
          rcases hrs with rfl | rfl
          · refine lv_if_eq (tgt := 83) hx hb dX8_firmest_52 (by decide) (fun c => absurd c (by decide)) (fun _ => ?_)
            refine lv_aload_n hx hb dX8_firmest_55 rfl (lv_at hl 4 rfl) ?_
            refine va_get (D := D) (cl := vwCl) (ci := 8) (v := .ref (ad 10)) (C := RX8) (T := TX8) (N := 13) hx hb hts in_X8_firmest_X8 hown hK hP 0 (wl_at (by decide) e7) rfl 6 (by decide) (hts (.fieldLink RX8 44 "EightReasons" "loom" "LEightReasons$Loom;") (List.mem_of_getElem? (i := 3) rfl)) (fun _ h9 => h9) rfl dX8_firmest_56 ?_
            refine lv_iload hx hb dX8_firmest_59 (lv_at hl 0 rfl) ?_
            obtain ⟨x22, t23, x25, x26, e27, h24⟩ := (show okX2 ad 10 (f 10) from hT.1 10 (by decide))
            refine tVI (As := [.int v22_l5]) (rest := []) (i := 10) ⟨hx, hb, hml, hown, hts⟩ hK hE hP hD hS hA hAB (s_X2_beyond_0 l B0 adK adV D cy ad fr0 tx rby rnx f hT v22_l5 (by omega) _) (cwV 1 hts gX8_firmest_X2_beyond rfl rfl rfl (by decide +kernel) ⟨Nat.le_of_ble_eq_true rfl, Nat.le_of_ble_eq_true rfl⟩) (by decide) 2 e27 rfl rfl hl.1 rfl (Nat.le_of_ble_eq_true rfl) dX8_firmest_61 ⟨Nat.le_of_ble_eq_true rfl, Nat.le_of_ble_eq_true rfl⟩ (fun r g H locs hw hP hD hS => ?_)
            obtain ⟨hrs, rfl⟩ := hw
            obtain ⟨x28, rfl⟩ : ∃ q, q = r := ⟨_, rfl⟩
            have h29 := hrs
            refine lv_iload hx hb dX8_firmest_64 (lv_at hl 1 rfl) ?_
            refine lv_icmp_le (tgt := 83) hx hb dX8_firmest_66 (by decide) (fun c30 => ?_) (fun c30 => ?_)
            · have kc30 := c_le c30
              exact j83 f H locs ls v22_l4 v22_l3 (by omega) (by omega) (by omega) hT hP hD hS (lv_sub hl [0, 1, 2, 3, 4, 5] rfl)
            · have kc30 := c_nle c30
              refine lv_iload hx hb dX8_firmest_69 (lv_at hl 0 rfl) ?_
              refine lv_istore_n (lv' := [(3, .int v22_l5), (5, .int v22_l5), (4, .int v22_l4), (2, .int v22_l2), (0, .ref (ad 0)), (1, .int p1)]) hx hb dX8_firmest_71 rfl hl (by decide) rfl (fun ls hl => ?_)
              refine lv_aload_n hx hb dX8_firmest_72 rfl (lv_at hl 4 rfl) ?_
              refine va_get (D := D) (cl := vwCl) (ci := 8) (v := .ref (ad 10)) (C := RX8) (T := TX8) (N := 13) hx hb hts in_X8_firmest_X8 hown hK hP 0 (wl_at (by decide) e7) rfl 6 (by decide) (hts (.fieldLink RX8 44 "EightReasons" "loom" "LEightReasons$Loom;") (List.mem_of_getElem? (i := 3) rfl)) (fun _ h9 => h9) rfl dX8_firmest_73 ?_
              refine lv_iload hx hb dX8_firmest_76 (lv_at hl 1 rfl) ?_
              refine tVI (As := [.int v22_l5]) (rest := []) (i := 10) ⟨hx, hb, hml, hown, hts⟩ hK hE hP hD hS hA hAB (s_X2_beyond_0 l B0 adK adV D cy ad fr0 tx rby rnx f hT v22_l5 (by omega) _) (cwV 1 hts gX8_firmest_X2_beyond rfl rfl rfl (by decide +kernel) ⟨Nat.le_of_ble_eq_true rfl, Nat.le_of_ble_eq_true rfl⟩) (by decide) 2 e27 rfl rfl hl.1 rfl (Nat.le_of_ble_eq_true rfl) dX8_firmest_78 ⟨Nat.le_of_ble_eq_true rfl, Nat.le_of_ble_eq_true rfl⟩ (fun r g H locs hw hP hD hS => ?_)
              obtain ⟨hrs, rfl⟩ := hw
              obtain ⟨x31, rfl⟩ : ∃ q, q = r := ⟨_, rfl⟩
              have h32 := hrs
              refine lv_istore (lv' := [(4, .int x31), (3, .int v22_l5), (5, .int v22_l5), (2, .int v22_l2), (0, .ref (ad 0)), (1, .int p1)]) hx hb dX8_firmest_81 hl (by decide) rfl (fun ls hl => ?_)
              exact j83 f H locs ls x31 v22_l5 (by omega) (by omega) (by omega) hT hP hD hS (lv_sub hl [2, 0, 1, 3, 4, 5] rfl)
          · refine lv_if_eq (tgt := 83) hx hb dX8_firmest_52 (by decide) (fun _ => ?_) (fun c => absurd (by decide) c)
            exact j83 f H locs ls v22_l4 v22_l3 (by omega) (by omega) (by omega) hT hP hD hS (lv_sub hl [0, 1, 2, 3, 4, 5] rfl)
        · refine lv_if_eq (tgt := 83) hx hb dX8_firmest_43 (by decide) (fun _ => ?_) (fun c => absurd (by decide) c)
          exact j83 f H locs ls v22_l4 v22_l3 (by omega) (by omega) (by omega) hT hP hD hS (lv_sub hl [0, 1, 2, 3, 4, 5] rfl)
  refine lv_iload_n hx hb dX8_firmest_0 rfl (lv_at hl 1 rfl) ?_
  refine tSI (As := [.int p1]) (rest := []) ⟨hx, hb, hml, hown, hts⟩ hK hE hP hD hS hA hAB (s_X8_isZeroOrOne_0 l B0 adK adV D cy ad f p1 _) (va_cwS 1 hts gX8_firmest_X8_isZeroOrOne rfl rfl rfl (by decide +kernel) ⟨Nat.le_of_ble_eq_true rfl, Nat.le_of_ble_eq_true rfl⟩) rfl hl.1 rfl (Nat.le_of_ble_eq_true rfl) dX8_firmest_1 ⟨Nat.le_of_ble_eq_true rfl, Nat.le_of_ble_eq_true rfl⟩ (fun r g H locs hw hP hD hS => ?_)
  obtain ⟨hrs, rfl⟩ := hw
  obtain ⟨x33, rfl⟩ : ∃ q, q = r := ⟨_, rfl⟩
  rcases hrs with ⟨rfl, h34, h35⟩ | rfl
  · refine lv_if_ne (tgt := 9) hx hb dX8_firmest_4 (by decide) (fun _ => ?_) (fun c => absurd c (by decide))
    refine lv_aload_n hx hb dX8_firmest_9 rfl (lv_at hl 0 rfl) ?_
    obtain ⟨t36, x38, x39, e41, h37, h40⟩ := (show okX8 ad tx 0 (f 0) from hT.1 0 (by decide))
    refine tVI (As := []) (rest := []) (i := 0) ⟨hx, hb, hml, hown, hts⟩ hK hE hP hD hS hA hAB (s_X8_standingNow_0 l B0 adK adV D cy ad fr0 tx rby rnx f hT _) (cwV 0 hts gX8_firmest_X8_standingNow rfl rfl rfl (by decide +kernel) ⟨Nat.le_of_ble_eq_true rfl, Nat.le_of_ble_eq_true rfl⟩) (by decide) 8 e41 rfl rfl hl.1 rfl (Nat.le_of_ble_eq_true rfl) dX8_firmest_10 ⟨Nat.le_of_ble_eq_true rfl, Nat.le_of_ble_eq_true rfl⟩ (fun r f H locs hw hP hD hS => ?_)
    obtain ⟨hrs, hT⟩ := hw
    obtain ⟨x42, rfl⟩ : ∃ q, q = r := ⟨_, rfl⟩
    have h43 := hrs
    refine lv_istore_n (lv' := [(2, .int x42), (0, .ref (ad 0)), (1, .int p1)]) hx hb dX8_firmest_13 rfl hl (by decide) rfl (fun ls hl => ?_)
    refine lv_iconst (v := (-1)) hx hb dX8_firmest_14 (by decide) ?_
    refine lv_istore_n (lv' := [(3, .int (-1)), (2, .int x42), (0, .ref (ad 0)), (1, .int p1)]) hx hb dX8_firmest_15 rfl hl (by decide) rfl (fun ls hl => ?_)
    refine lv_iconst (v := (-1)) hx hb dX8_firmest_16 (by decide) ?_
    refine lv_istore (lv' := [(4, .int (-1)), (3, .int (-1)), (2, .int x42), (0, .ref (ad 0)), (1, .int p1)]) hx hb dX8_firmest_17 hl (by decide) rfl (fun ls hl => ?_)
    refine lv_iconst (v := 0) hx hb dX8_firmest_19 (by decide) ?_
    refine lv_istore (lv' := [(5, .int 0), (4, .int (-1)), (3, .int (-1)), (2, .int x42), (0, .ref (ad 0)), (1, .int p1)]) hx hb dX8_firmest_20 hl (by decide) rfl (fun ls hl => ?_)
    have ttl_0 := tl_0
    have ttl_m1 := tl_m1
    exact j22 (Int.toNat (11 - (0 : Int32).toInt)) f H locs ls (0 : Int32) ((-1) : Int32) ((-1) : Int32) x42 (by omega) (by omega) (by omega) (by omega) hT hP hD hS (lv_sub hl [0, 1, 2, 3, 4, 5] rfl)
  · refine lv_if_ne (tgt := 9) hx hb dX8_firmest_4 (by decide) (fun c => absurd (by decide) c) (fun _ => ?_)
    refine lv_iconst (v := (-1)) hx hb dX8_firmest_7 (by decide) ?_
    have ttl_m1 := tl_m1
    exact tI hx hb hr hlk rfl hP hS ⟨trivial, hT⟩ dX8_firmest_8
set_option maxHeartbeats 4000000 in
set_option maxRecDepth 100000 in
theorem s_X8_burdened_0 (l : Launch) (B0 : Nat) (adK adV : Nat → Nat) (D : va_G) (cy : Nat → ClassId) (ad : Nat → Nat) (fr0 : Nat → va_E) (tx : Int32) (rby : Int32) (rnx : Int32) (f : Nat → va_E) (hT : TYx ad cy fr0 tx rby rnx f) (sz : Nat) : TtI l yX8_burdened wsX8_burdened 2 40 [.ref (ad 0)] B0 adK adV D cy ad f sz (fun (r : Int32) (g : Nat → va_E) => (-1 ≤ r.toInt ∧ r.toInt ≤ 9) ∧ (f = g)) := by
  refine TtI.of (cc := cX8_burdened) (maxL := 5) (ty := .int) (own := RX8) (by decide) rfl (Nat.le_of_ble_eq_true rfl) rfl ?_
  intro p e s m below meth c A ls hx hb hr hml hts hown hlk hK hE hP hD hS hA hAB hl
  have hl : lv_has ls 5 [(0, .ref (ad 0))] := hl
  refine st0 (fun H locs hP hS => ?_) hP hS
  have j6 : ∀ (N : Nat) (H : Heap) (locs : List Loc) (ls : Array Slot) (v6_l3 : Int32) (v6_l2 : Int32) (v6_l1 : Int32), (11 - v6_l3.toInt ≤ (N : Int)) → (0 ≤ v6_l3.toInt ∧ v6_l3.toInt ≤ 10) → (-1 ≤ v6_l2.toInt ∧ v6_l2.toInt ≤ 63) → (-1 ≤ v6_l1.toInt ∧ v6_l1.toInt ≤ 9) → (va_P D vwCl (wl ad f) H) → (va_D A (wl ad f)) → (va_S A s.heap H locs) → (lv_has ls 5 [(3, .int v6_l3), (2, .int v6_l2), (1, .int v6_l1), (0, .ref (ad 0))]) → W p l e (rmO 2 40 0 0) s m ([.ref (ad 0)] : List Value).toArray below meth c H locs 0 0 (MQ below (va_Qi (fun (r : Int32) (g : Nat → va_E) => (-1 ≤ r.toInt ∧ r.toInt ≤ 9) ∧ (f = g)) (fun g t => PstT D ad g t) A) ([.ref (ad 0)] : List Value).toArray s 0 0 A) (F0 m 6 ls []) := by
    intro N
    induction N with
    | zero => intro H locs ls v6_l3 v6_l2 v6_l1 hN hv6_l3 hv6_l2 hv6_l1 hP hD hS hl; exact absurd hN (by omega)
    | succ N ih6 =>
      intro H locs ls v6_l3 v6_l2 v6_l1 hN hv6_l3 hv6_l2 hv6_l1 hP hD hS hl
      have j50 : ∀ (H : Heap) (locs : List Loc) (ls : Array Slot) (v50_l4 : Int32) (v50_l2 : Int32) (v50_l1 : Int32), (0 ≤ v50_l4.toInt ∧ v50_l4.toInt ≤ 63) → (0 ≤ v6_l3.toInt ∧ v6_l3.toInt ≤ 9) → (0 ≤ v50_l2.toInt ∧ v50_l2.toInt ≤ 63) → (-1 ≤ v50_l1.toInt ∧ v50_l1.toInt ≤ 9) → (va_P D vwCl (wl ad f) H) → (va_D A (wl ad f)) → (va_S A s.heap H locs) → (lv_has ls 5 [(4, .int v50_l4), (3, .int v6_l3), (2, .int v50_l2), (1, .int v50_l1), (0, .ref (ad 0))]) → W p l e (rmO 2 40 0 0) s m ([.ref (ad 0)] : List Value).toArray below meth c H locs 0 0 (MQ below (va_Qi (fun (r : Int32) (g : Nat → va_E) => (-1 ≤ r.toInt ∧ r.toInt ≤ 9) ∧ (f = g)) (fun g t => PstT D ad g t) A) ([.ref (ad 0)] : List Value).toArray s 0 0 A) (F0 m 50 ls []) := by
        intro H locs ls v50_l4 v50_l2 v50_l1 hv50_l4 hv50_l3 hv50_l2 hv50_l1 hP hD hS hl
        obtain ⟨x1, ex1⟩ : ∃ q : Int32, q = v6_l3 + Int32.ofInt (1) := ⟨_, rfl⟩
        refine lv_iinc (v := x1) (lv' := [(3, .int x1), (4, .int v50_l4), (2, .int v50_l2), (1, .int v50_l1), (0, .ref (ad 0))]) hx hb dX8_burdened_50 hl (k := 1) rfl ex1.symm (by decide) rfl (fun ls hl => ?_)
        have hx1 := r_inc ex1 (by decide) (by omega) (by omega)
        refine lv_goto (tgt := 6) hx hb dX8_burdened_53 (by decide) ?_
        exact ih6 H locs ls x1 v50_l2 v50_l1 (by omega) (by omega) (by omega) (by omega) hP hD hS (lv_sub hl [0, 2, 3, 4] rfl)
      refine lv_iload_n hx hb dX8_burdened_6 rfl (lv_at hl 0 rfl) ?_
      refine lv_aload_n hx hb dX8_burdened_7 rfl (lv_at hl 3 rfl) ?_
      obtain ⟨t2, x4, x5, e7, h3, h6⟩ := (show okX8 ad tx 0 (f 0) from hT.1 0 (by decide))
      refine va_get (D := D) (cl := vwCl) (ci := 8) (v := .ref (ad t2)) (C := RX8) (T := TX8) (N := 13) hx hb hts in_X8_burdened_X8 hown hK hP 0 (wl_at (by decide) e7) rfl 1 (by decide) (hts (.fieldLink RX8 19 "EightReasons" "told" "LEightReasons$Suit;") (List.mem_of_getElem? (i := 1) rfl)) (fun _ h9 => h9) rfl dX8_burdened_8 ?_
      obtain ⟨x8, x10, x11, x13, x14, e15, h9, h12⟩ := (ty_suit hT h3)
      refine va_get (D := D) (cl := vwCl) (ci := 5) (v := .int x8) (C := RX5) (T := TX5) (N := 12) hx hb hts in_X8_burdened_X5 hown hK hP t2 (wl_at (x_lt (x_suit0 h3)) e15) rfl 0 (by decide) (hts (.fieldLink RX8 105 "EightReasons$Suit" "points" "I") (List.mem_of_getElem? (i := 2) rfl)) (fun _ h9 => h9) rfl dX8_burdened_11 ?_
      refine lv_icmp_ge (tgt := 56) hx hb dX8_burdened_14 (by decide) (fun c16 => ?_) (fun c16 => ?_)
      · have kc16 := c_le c16
        refine lv_iload_n hx hb dX8_burdened_56 rfl (lv_at hl 2 rfl) ?_
        exact tI hx hb hr hlk rfl hP hS ⟨(by omega), rfl⟩ dX8_burdened_57
      · have kc16 := c_nle c16
        refine lv_aload_n hx hb dX8_burdened_17 rfl (lv_at hl 3 rfl) ?_
        refine va_get (D := D) (cl := vwCl) (ci := 8) (v := .ref (ad t2)) (C := RX8) (T := TX8) (N := 13) hx hb hts in_X8_burdened_X8 hown hK hP 0 (wl_at (by decide) e7) rfl 1 (by decide) (hts (.fieldLink RX8 19 "EightReasons" "told" "LEightReasons$Suit;") (List.mem_of_getElem? (i := 1) rfl)) (fun _ h9 => h9) rfl dX8_burdened_18 ?_
        refine va_get (D := D) (cl := vwCl) (ci := 5) (v := .ref (ad (t2 + 3))) (C := RX5) (T := TX5) (N := 12) hx hb hts in_X8_burdened_X5 hown hK hP t2 (wl_at (x_lt (x_suit0 h3)) e15) rfl 7 (by decide) (hts (.fieldLink RX8 130 "EightReasons$Suit" "from" "[I") (List.mem_of_getElem? (i := 3) rfl)) (fun _ h9 => h9) rfl dX8_burdened_21 ?_
        refine lv_iload_n hx hb dX8_burdened_24 rfl (lv_at hl 0 rfl) ?_
        obtain ⟨g18, e17⟩ := (ty_suit3 hT h3)
        refine va_iald hx hb hK hP (t2 + 3) 0 (wl_at (x_lt (x_suit h3 (by decide))) e17) rfl (vp_in_iff.mpr ⟨by omega, by omega⟩) dX8_burdened_25 ?_
        refine lv_topi (fun x19 ex19 => ?_)
        refine lv_aload_n hx hb dX8_burdened_26 rfl (lv_at hl 3 rfl) ?_
        refine tVR (As := []) (rest := [.int x19]) (i := 0) ⟨hx, hb, hml, hown, hts⟩ hK hE hP hD hS hA hAB (s_X8_now_0 l B0 adK adV D cy ad fr0 tx rby rnx f hT _) (cwV 0 hts gX8_burdened_X8_now rfl rfl rfl (by decide +kernel) ⟨Nat.le_of_ble_eq_true rfl, Nat.le_of_ble_eq_true rfl⟩) (by decide) 8 e7 rfl rfl hl.1 rfl (Nat.le_of_ble_eq_true rfl) dX8_burdened_27 ⟨Nat.le_of_ble_eq_true rfl, Nat.le_of_ble_eq_true rfl⟩ (fun ra g H locs hw hra hP hD hS => ?_)
        obtain ⟨hrs, rfl⟩ := hw
        obtain ⟨t20, h21, rfl⟩ := hra
        obtain ⟨x22, x24, x25, x26, e27, h23⟩ := (ty_state hT h21)
        refine va_get (D := D) (cl := vwCl) (ci := 4) (v := .int x22) (C := RX4) (T := TX4) (N := 5) hx hb hts in_X8_burdened_X4 hown hK hP t20 (wl_at (x_lt (x_state0 h21)) e27) rfl 1 (by decide) (hts (.fieldLink RX8 145 "EightReasons$State" "tied" "I") (List.mem_of_getElem? (i := 4) rfl)) (fun _ h9 => h9) rfl dX8_burdened_30 ?_
        refine lv_iand hx hb dX8_burdened_33 ?_
        refine lv_topi (fun x28 ex28 => ?_)
        have hx28 := r_andr ex28 (by omega)
        refine tSI (As := [.int x28]) (rest := []) ⟨hx, hb, hml, hown, hts⟩ hK hE hP hD hS hA hAB (s_J6_bitCount_0f7a4_0 l B0 adK adV D cy ad f x28 _) (va_cwS 1 hts gX8_burdened_J6_bitCount_0f7a4 rfl rfl rfl (by decide +kernel) ⟨Nat.le_of_ble_eq_true rfl, Nat.le_of_ble_eq_true rfl⟩) rfl hl.1 rfl (Nat.le_of_ble_eq_true rfl) dX8_burdened_34 ⟨Nat.le_of_ble_eq_true rfl, Nat.le_of_ble_eq_true rfl⟩ (fun r g H locs hw hP hD hS => ?_)
        obtain ⟨hrs, rfl⟩ := hw
        obtain ⟨x29, rfl⟩ : ∃ q, q = r := ⟨_, rfl⟩
        have h30 := hrs
        refine lv_istore (lv' := [(4, .int x29), (3, .int v6_l3), (2, .int v6_l2), (1, .int v6_l1), (0, .ref (ad 0))]) hx hb dX8_burdened_37 hl (by decide) rfl (fun ls hl => ?_)
        refine lv_iload hx hb dX8_burdened_39 (lv_at hl 0 rfl) ?_
        refine lv_iload_n hx hb dX8_burdened_41 rfl (lv_at hl 2 rfl) ?_
        refine lv_icmp_le (tgt := 50) hx hb dX8_burdened_42 (by decide) (fun c31 => ?_) (fun c31 => ?_)
        · have kc31 := c_le c31
          exact j50 H locs ls x29 v6_l2 v6_l1 (by omega) (by omega) (by omega) (by omega) hP hD hS (lv_sub hl [0, 1, 2, 3, 4] rfl)
        · have kc31 := c_nle c31
          refine lv_iload_n hx hb dX8_burdened_45 rfl (lv_at hl 1 rfl) ?_
          refine lv_istore_n (lv' := [(1, .int v6_l3), (4, .int x29), (3, .int v6_l3), (2, .int v6_l2), (0, .ref (ad 0))]) hx hb dX8_burdened_46 rfl hl (by decide) rfl (fun ls hl => ?_)
          refine lv_iload hx hb dX8_burdened_47 (lv_at hl 1 rfl) ?_
          refine lv_istore_n (lv' := [(2, .int x29), (1, .int v6_l3), (4, .int x29), (3, .int v6_l3), (0, .ref (ad 0))]) hx hb dX8_burdened_49 rfl hl (by decide) rfl (fun ls hl => ?_)
          exact j50 H locs ls x29 x29 v6_l3 (by omega) (by omega) (by omega) (by omega) hP hD hS (lv_sub hl [2, 3, 0, 1, 4] rfl)
  refine lv_iconst (v := (-1)) hx hb dX8_burdened_0 (by decide) ?_
  refine lv_istore_n (lv' := [(1, .int (-1)), (0, .ref (ad 0))]) hx hb dX8_burdened_1 rfl hl (by decide) rfl (fun ls hl => ?_)
  refine lv_iconst (v := (-1)) hx hb dX8_burdened_2 (by decide) ?_
  refine lv_istore_n (lv' := [(2, .int (-1)), (1, .int (-1)), (0, .ref (ad 0))]) hx hb dX8_burdened_3 rfl hl (by decide) rfl (fun ls hl => ?_)
  refine lv_iconst (v := 0) hx hb dX8_burdened_4 (by decide) ?_
  refine lv_istore_n (lv' := [(3, .int 0), (2, .int (-1)), (1, .int (-1)), (0, .ref (ad 0))]) hx hb dX8_burdened_5 rfl hl (by decide) rfl (fun ls hl => ?_)
  have ttl_0 := tl_0
  have ttl_m1 := tl_m1
  exact j6 (Int.toNat (11 - (0 : Int32).toInt)) H locs ls (0 : Int32) ((-1) : Int32) ((-1) : Int32) (by omega) (by omega) (by omega) (by omega) hP hD hS (lv_sub hl [0, 1, 2, 3] rfl)
set_option maxHeartbeats 4000000 in
set_option maxRecDepth 100000 in
theorem s_X5_behind_0 (l : Launch) (B0 : Nat) (adK adV : Nat → Nat) (D : va_G) (cy : Nat → ClassId) (ad : Nat → Nat) (fr0 : Nat → va_E) (tx : Int32) (rby : Int32) (rnx : Int32) (f : Nat → va_E) (hT : TYx ad cy fr0 tx rby rnx f) (q0 : Nat) (hq0 : isSuit q0) (p1 : Int32) (hp1 : 0 ≤ p1.toInt ∧ p1.toInt ≤ 1120) (p2 : Int32) (hp2 : 0 ≤ p2.toInt ∧ p2.toInt ≤ 4095) (sz : Nat) : TtI l yX5_behind wsX5_behind 1 21 [.ref (ad q0), .int p1, .int p2] B0 adK adV D cy ad f sz (fun (r : Int32) (g : Nat → va_E) => (0 ≤ r.toInt ∧ r.toInt ≤ 1023) ∧ (f = g)) := by
  refine TtI.of (cc := cX5_behind) (maxL := 5) (ty := .int) (own := RX5) (by decide) rfl (Nat.le_of_ble_eq_true rfl) rfl ?_
  intro p e s m below meth c A ls hx hb hr hml hts hown hlk hK hE hP hD hS hA hAB hl
  have hl : lv_has ls 5 [(0, .ref (ad q0)), (1, .int p1), (2, .int p2)] := hl
  refine st0 (fun H locs hP hS => ?_) hP hS
  have j5 : ∀ (N : Nat) (H : Heap) (locs : List Loc) (ls : Array Slot) (v5_l4 : Int32) (v5_l3 : Int32), (13 - v5_l4.toInt ≤ (N : Int)) → (0 ≤ v5_l4.toInt ∧ v5_l4.toInt ≤ 12) → (0 ≤ v5_l3.toInt ∧ v5_l3.toInt ≤ 1023) → (0 ≤ p1.toInt ∧ p1.toInt ≤ 1120) → (0 ≤ p2.toInt ∧ p2.toInt ≤ 4095) → (va_P D vwCl (wl ad f) H) → (va_D A (wl ad f)) → (va_S A s.heap H locs) → (lv_has ls 5 [(4, .int v5_l4), (3, .int v5_l3), (0, .ref (ad q0)), (1, .int p1), (2, .int p2)]) → W p l e (rmO 1 21 0 0) s m ([.ref (ad q0), .int p1, .int p2] : List Value).toArray below meth c H locs 0 0 (MQ below (va_Qi (fun (r : Int32) (g : Nat → va_E) => (0 ≤ r.toInt ∧ r.toInt ≤ 1023) ∧ (f = g)) (fun g t => PstT D ad g t) A) ([.ref (ad q0), .int p1, .int p2] : List Value).toArray s 0 0 A) (F0 m 5 ls []) := by
    intro N
    induction N with
    | zero => intro H locs ls v5_l4 v5_l3 hN hv5_l4 hv5_l3 hv5_l1 hv5_l2 hP hD hS hl; exact absurd hN (by omega)
    | succ N ih5 =>
      intro H locs ls v5_l4 v5_l3 hN hv5_l4 hv5_l3 hv5_l1 hv5_l2 hP hD hS hl
      have j49 : ∀ (H : Heap) (locs : List Loc) (ls : Array Slot) (v49_l3 : Int32), (0 ≤ v49_l3.toInt ∧ v49_l3.toInt ≤ 1023) → (0 ≤ v5_l4.toInt ∧ v5_l4.toInt ≤ 11) → (0 ≤ p1.toInt ∧ p1.toInt ≤ 1120) → (0 ≤ p2.toInt ∧ p2.toInt ≤ 4095) → (va_P D vwCl (wl ad f) H) → (va_D A (wl ad f)) → (va_S A s.heap H locs) → (lv_has ls 5 [(3, .int v49_l3), (4, .int v5_l4), (0, .ref (ad q0)), (1, .int p1), (2, .int p2)]) → W p l e (rmO 1 21 0 0) s m ([.ref (ad q0), .int p1, .int p2] : List Value).toArray below meth c H locs 0 0 (MQ below (va_Qi (fun (r : Int32) (g : Nat → va_E) => (0 ≤ r.toInt ∧ r.toInt ≤ 1023) ∧ (f = g)) (fun g t => PstT D ad g t) A) ([.ref (ad q0), .int p1, .int p2] : List Value).toArray s 0 0 A) (F0 m 49 ls []) := by
        intro H locs ls v49_l3 hv49_l3 hv49_l4 hv49_l1 hv49_l2 hP hD hS hl
        obtain ⟨x1, ex1⟩ : ∃ q : Int32, q = v5_l4 + Int32.ofInt (1) := ⟨_, rfl⟩
        refine lv_iinc (v := x1) (lv' := [(4, .int x1), (3, .int v49_l3), (0, .ref (ad q0)), (1, .int p1), (2, .int p2)]) hx hb dX5_behind_49 hl (k := 1) rfl ex1.symm (by decide) rfl (fun ls hl => ?_)
        have hx1 := r_inc ex1 (by decide) (by omega) (by omega)
        refine lv_goto (tgt := 5) hx hb dX5_behind_52 (by decide) ?_
        exact ih5 H locs ls x1 v49_l3 (by omega) (by omega) (by omega) (by omega) (by omega) hP hD hS (lv_sub hl [0, 1, 2, 3, 4] rfl)
      refine lv_iload hx hb dX5_behind_5 (lv_at hl 0 rfl) ?_
      refine lv_aload_n hx hb dX5_behind_7 rfl (lv_at hl 2 rfl) ?_
      obtain ⟨x2, x4, x5, x7, x8, e9, h3, h6⟩ := (ty_suit hT hq0)
      refine va_get (D := D) (cl := vwCl) (ci := 5) (v := .int x5) (C := RX5) (T := TX5) (N := 12) hx hb hts in_X5_behind_X5 hown hK hP q0 (wl_at (x_lt (x_suit0 hq0)) e9) rfl 2 (by decide) (hts (.fieldLink RX5 44 "EightReasons$Suit" "strands" "I") (List.mem_of_getElem? (i := 1) rfl)) (fun _ h9 => h9) rfl dX5_behind_8 ?_
      refine lv_icmp_ge (tgt := 55) hx hb dX5_behind_11 (by decide) (fun c10 => ?_) (fun c10 => ?_)
      · have kc10 := c_le c10
        refine lv_iload_n hx hb dX5_behind_55 rfl (lv_at hl 1 rfl) ?_
        exact tI hx hb hr hlk rfl hP hS ⟨(by omega), rfl⟩ dX5_behind_56
      · have kc10 := c_nle c10
        refine lv_iload_n hx hb dX5_behind_14 rfl (lv_at hl 4 rfl) ?_
        refine lv_iload hx hb dX5_behind_15 (lv_at hl 0 rfl) ?_
        refine tNI (As := [.int p2, .int v5_l4]) (rest := []) (host := RX8) ⟨hx, hb, hml, hown, hts⟩ hK hE hP hD hS hA hAB (s_X8_has_0 l B0 adK adV D cy ad f p2 v5_l4 _) ⟨va_cnB 2 hts gX5_behind_X8_has_n63 rfl rfl rfl (hE.2.1 _ (List.mem_of_getElem? (i := 12) rfl)) (hts (.initialized RX8) (List.mem_of_getElem? (i := 5) rfl)) (by decide +kernel) ⟨Nat.le_of_ble_eq_true rfl, Nat.le_of_ble_eq_true rfl⟩, (hts (.static yX8_has) (List.mem_of_getElem? (i := 4) rfl)), trivial⟩ rfl hl.1 rfl (Nat.le_of_ble_eq_true rfl) dX5_behind_17 ⟨Nat.le_of_ble_eq_true rfl, Nat.le_of_ble_eq_true rfl⟩ (fun r g H locs hw hP hD hS => ?_)
        obtain ⟨hrs, rfl⟩ := hw
        obtain ⟨x11, rfl⟩ : ∃ q, q = r := ⟨_, rfl⟩
        rcases hrs with rfl | rfl
        · refine lv_if_eq (tgt := 49) hx hb dX5_behind_20 (by decide) (fun c => absurd c (by decide)) (fun _ => ?_)
          refine lv_iload_n hx hb dX5_behind_23 rfl (lv_at hl 3 rfl) ?_
          refine lv_aload_n hx hb dX5_behind_24 rfl (lv_at hl 2 rfl) ?_
          refine va_get (D := D) (cl := vwCl) (ci := 5) (v := .ref (ad (q0 + 5))) (C := RX5) (T := TX5) (N := 12) hx hb hts in_X5_behind_X5 hown hK hP q0 (wl_at (x_lt (x_suit0 hq0)) e9) rfl 9 (by decide) (hts (.fieldLink RX5 24 "EightReasons$Suit" "target" "[I") (List.mem_of_getElem? (i := 2) rfl)) (fun _ h9 => h9) rfl dX5_behind_25 ?_
          refine lv_iload hx hb dX5_behind_28 (lv_at hl 0 rfl) ?_
          obtain ⟨g14, e12, h13⟩ := (ty_suit5 hT hq0)
          refine va_iald hx hb hK hP (q0 + 5) 0 (wl_at (x_lt (x_suit hq0 (by decide))) e12) rfl (vp_in_iff.mpr ⟨by omega, by omega⟩) dX5_behind_30 ?_
          refine lv_topi (fun x15 ex15 => ?_)
          have hx15 := r_el (h13 _ (Nat.mod_one _)) ex15
          refine tNI (As := [.int p1, .int x15]) (rest := []) (host := RX8) ⟨hx, hb, hml, hown, hts⟩ hK hE hP hD hS hA hAB (s_X8_has_0 l B0 adK adV D cy ad f p1 x15 _) ⟨va_cnB 2 hts gX5_behind_X8_has_n63 rfl rfl rfl (hE.2.1 _ (List.mem_of_getElem? (i := 12) rfl)) (hts (.initialized RX8) (List.mem_of_getElem? (i := 5) rfl)) (by decide +kernel) ⟨Nat.le_of_ble_eq_true rfl, Nat.le_of_ble_eq_true rfl⟩, (hts (.static yX8_has) (List.mem_of_getElem? (i := 4) rfl)), trivial⟩ rfl hl.1 rfl (Nat.le_of_ble_eq_true rfl) dX5_behind_31 ⟨Nat.le_of_ble_eq_true rfl, Nat.le_of_ble_eq_true rfl⟩ (fun r g H locs hw hP hD hS => ?_)
          obtain ⟨hrs, rfl⟩ := hw
          obtain ⟨x16, rfl⟩ : ∃ q, q = r := ⟨_, rfl⟩
          rcases hrs with rfl | rfl
          · refine lv_if_eq (tgt := 49) hx hb dX5_behind_34 (by decide) (fun c => absurd c (by decide)) (fun _ => ?_)
            refine lv_iload_n hx hb dX5_behind_37 rfl (lv_at hl 1 rfl) ?_
            refine lv_iconst (v := 1) hx hb dX5_behind_38 (by decide) ?_
            refine lv_aload_n hx hb dX5_behind_39 rfl (lv_at hl 2 rfl) ?_
            refine va_get (D := D) (cl := vwCl) (ci := 5) (v := .ref (ad (q0 + 4))) (C := RX5) (T := TX5) (N := 12) hx hb hts in_X5_behind_X5 hown hK hP q0 (wl_at (x_lt (x_suit0 hq0)) e9) rfl 8 (by decide) (hts (.fieldLink RX5 21 "EightReasons$Suit" "source" "[I") (List.mem_of_getElem? (i := 3) rfl)) (fun _ h9 => h9) rfl dX5_behind_40 ?_
            refine lv_iload hx hb dX5_behind_43 (lv_at hl 0 rfl) ?_
            obtain ⟨g19, e17, h18⟩ := (ty_suit4 hT hq0)
            refine va_iald hx hb hK hP (q0 + 4) 0 (wl_at (x_lt (x_suit hq0 (by decide))) e17) rfl (vp_in_iff.mpr ⟨by omega, by omega⟩) dX5_behind_45 ?_
            refine lv_topi (fun x20 ex20 => ?_)
            have hx20 := r_el (h18 _ (Nat.mod_one _)) ex20
            refine lv_ishl hx hb dX5_behind_46 ?_
            refine lv_topi (fun x21 ex21 => ?_)
            have hx21 := r_shl (K := 9) (M := 512) ex21 (by decide) (by decide) (by omega) (by omega)
            refine lv_ior hx hb dX5_behind_47 ?_
            refine lv_topi (fun x22 ex22 => ?_)
            have hx22 := r_or (k := 10) (K := 1024) ex22 (by decide) (by decide) (by omega) (by omega) (by omega) (by omega)
            refine lv_istore_n (lv' := [(3, .int x22), (4, .int v5_l4), (0, .ref (ad q0)), (1, .int p1), (2, .int p2)]) hx hb dX5_behind_48 rfl hl (by decide) rfl (fun ls hl => ?_)
            exact j49 H locs ls x22 (by omega) (by omega) (by omega) (by omega) hP hD hS (lv_sub hl [0, 1, 2, 3, 4] rfl)
          · refine lv_if_eq (tgt := 49) hx hb dX5_behind_34 (by decide) (fun _ => ?_) (fun c => absurd (by decide) c)
            exact j49 H locs ls v5_l3 (by omega) (by omega) (by omega) (by omega) hP hD hS (lv_sub hl [1, 0, 2, 3, 4] rfl)
        · refine lv_if_eq (tgt := 49) hx hb dX5_behind_20 (by decide) (fun _ => ?_) (fun c => absurd (by decide) c)
          exact j49 H locs ls v5_l3 (by omega) (by omega) (by omega) (by omega) hP hD hS (lv_sub hl [1, 0, 2, 3, 4] rfl)
  refine lv_iconst (v := 0) hx hb dX5_behind_0 (by decide) ?_
  refine lv_istore_n (lv' := [(3, .int 0), (0, .ref (ad q0)), (1, .int p1), (2, .int p2)]) hx hb dX5_behind_1 rfl hl (by decide) rfl (fun ls hl => ?_)
  refine lv_iconst (v := 0) hx hb dX5_behind_2 (by decide) ?_
  refine lv_istore (lv' := [(4, .int 0), (3, .int 0), (0, .ref (ad q0)), (1, .int p1), (2, .int p2)]) hx hb dX5_behind_3 hl (by decide) rfl (fun ls hl => ?_)
  have ttl_0 := tl_0
  exact j5 (Int.toNat (13 - (0 : Int32).toInt)) H locs ls (0 : Int32) (0 : Int32) (by omega) (by omega) (by omega) (by omega) (by omega) hP hD hS (lv_sub hl [0, 1, 2, 3, 4] rfl)
set_option maxHeartbeats 4000000 in
set_option maxRecDepth 100000 in
theorem s_X8_roots_0 (l : Launch) (B0 : Nat) (adK adV : Nat → Nat) (D : va_G) (cy : Nat → ClassId) (ad : Nat → Nat) (fr0 : Nat → va_E) (tx : Int32) (rby : Int32) (rnx : Int32) (f : Nat → va_E) (hT : TYx ad cy fr0 tx rby rnx f) (p1 : Int32) (sz : Nat) : TtI l yX8_roots wsX8_roots 2 45 [.ref (ad 0), .int p1] B0 adK adV D cy ad f sz (fun (r : Int32) (g : Nat → va_E) => (-1 ≤ r.toInt ∧ r.toInt ≤ 1023) ∧ (f = g)) := by
  refine TtI.of (cc := cX8_roots) (maxL := 4) (ty := .int) (own := RX8) (by decide) rfl (Nat.le_of_ble_eq_true rfl) rfl ?_
  intro p e s m below meth c A ls hx hb hr hml hts hown hlk hK hE hP hD hS hA hAB hl
  have hl : lv_has ls 4 [(0, .ref (ad 0)), (1, .int p1)] := hl
  refine st0 (fun H locs hP hS => ?_) hP hS
  have j19 : ∀ (N : Nat) (H : Heap) (locs : List Loc) (ls : Array Slot) (v19_l3 : Int32) (v19_l2 : Int32), (11 - v19_l3.toInt ≤ (N : Int)) → (0 ≤ v19_l3.toInt ∧ v19_l3.toInt ≤ 10) → (0 ≤ v19_l2.toInt ∧ v19_l2.toInt ≤ 1023) → (0 ≤ p1.toInt ∧ p1.toInt ≤ 9) → (va_P D vwCl (wl ad f) H) → (va_D A (wl ad f)) → (va_S A s.heap H locs) → (lv_has ls 4 [(3, .int v19_l3), (2, .int v19_l2), (0, .ref (ad 0)), (1, .int p1)]) → W p l e (rmO 2 45 0 0) s m ([.ref (ad 0), .int p1] : List Value).toArray below meth c H locs 0 0 (MQ below (va_Qi (fun (r : Int32) (g : Nat → va_E) => (-1 ≤ r.toInt ∧ r.toInt ≤ 1023) ∧ (f = g)) (fun g t => PstT D ad g t) A) ([.ref (ad 0), .int p1] : List Value).toArray s 0 0 A) (F0 m 19 ls []) := by
    intro N
    induction N with
    | zero => intro H locs ls v19_l3 v19_l2 hN hv19_l3 hv19_l2 hv19_l1 hP hD hS hl; exact absurd hN (by omega)
    | succ N ih19 =>
      intro H locs ls v19_l3 v19_l2 hN hv19_l3 hv19_l2 hv19_l1 hP hD hS hl
      refine lv_iload_n hx hb dX8_roots_19 rfl (lv_at hl 0 rfl) ?_
      refine lv_bipush (v := 10) hx hb dX8_roots_20 (by decide) ?_
      have ttl_10 := tl_10
      refine lv_icmp_ge (tgt := 49) hx hb dX8_roots_22 (by decide) (fun c1 => ?_) (fun c1 => ?_)
      · have kc1 := c_le c1
        refine lv_iload_n hx hb dX8_roots_49 rfl (lv_at hl 1 rfl) ?_
        refine lv_aload_n hx hb dX8_roots_50 rfl (lv_at hl 2 rfl) ?_
        obtain ⟨t2, x4, x5, e7, h3, h6⟩ := (show okX8 ad tx 0 (f 0) from hT.1 0 (by decide))
        refine va_get (D := D) (cl := vwCl) (ci := 8) (v := .ref (ad t2)) (C := RX8) (T := TX8) (N := 13) hx hb hts in_X8_roots_X8 hown hK hP 0 (wl_at (by decide) e7) rfl 1 (by decide) (hts (.fieldLink RX8 19 "EightReasons" "told" "LEightReasons$Suit;") (List.mem_of_getElem? (i := 1) rfl)) (fun _ h9 => h9) rfl dX8_roots_51 ?_
        obtain ⟨x8, x10, x11, x13, x14, e15, h9, h12⟩ := (ty_suit hT h3)
        refine va_get (D := D) (cl := vwCl) (ci := 5) (v := .int x10) (C := RX5) (T := TX5) (N := 12) hx hb hts in_X8_roots_X5 hown hK hP t2 (wl_at (x_lt (x_suit0 h3)) e15) rfl 1 (by decide) (hts (.fieldLink RX8 118 "EightReasons$Suit" "facts" "I") (List.mem_of_getElem? (i := 3) rfl)) (fun _ h9 => h9) rfl dX8_roots_54 ?_
        refine lv_iand hx hb dX8_roots_57 ?_
        refine lv_topi (fun x16 ex16 => ?_)
        have hx16 := r_andl ex16 (by omega)
        exact tI hx hb hr hlk rfl hP hS ⟨(by omega), rfl⟩ dX8_roots_58
      · have kc1 := c_nle c1
        refine lv_iload_n hx hb dX8_roots_25 rfl (lv_at hl 1 rfl) ?_
        refine lv_aload_n hx hb dX8_roots_26 rfl (lv_at hl 2 rfl) ?_
        obtain ⟨t17, x19, x20, e22, h18, h21⟩ := (show okX8 ad tx 0 (f 0) from hT.1 0 (by decide))
        refine va_get (D := D) (cl := vwCl) (ci := 8) (v := .ref (ad t17)) (C := RX8) (T := TX8) (N := 13) hx hb hts in_X8_roots_X8 hown hK hP 0 (wl_at (by decide) e22) rfl 1 (by decide) (hts (.fieldLink RX8 19 "EightReasons" "told" "LEightReasons$Suit;") (List.mem_of_getElem? (i := 1) rfl)) (fun _ h9 => h9) rfl dX8_roots_27 ?_
        refine lv_iload_n hx hb dX8_roots_30 rfl (lv_at hl 1 rfl) ?_
        refine lv_aload_n hx hb dX8_roots_31 rfl (lv_at hl 2 rfl) ?_
        refine tVR (As := []) (rest := [.int v19_l2, .ref (ad t17), .int v19_l2]) (i := 0) ⟨hx, hb, hml, hown, hts⟩ hK hE hP hD hS hA hAB (s_X8_now_0 l B0 adK adV D cy ad fr0 tx rby rnx f hT _) (cwV 0 hts gX8_roots_X8_now rfl rfl rfl (by decide +kernel) ⟨Nat.le_of_ble_eq_true rfl, Nat.le_of_ble_eq_true rfl⟩) (by decide) 8 e22 rfl rfl hl.1 rfl (Nat.le_of_ble_eq_true rfl) dX8_roots_32 ⟨Nat.le_of_ble_eq_true rfl, Nat.le_of_ble_eq_true rfl⟩ (fun ra g H locs hw hra hP hD hS => ?_)
        obtain ⟨hrs, rfl⟩ := hw
        obtain ⟨t23, h24, rfl⟩ := hra
        obtain ⟨x25, x27, x28, x29, e30, h26⟩ := (ty_state hT h24)
        refine va_get (D := D) (cl := vwCl) (ci := 4) (v := .int x25) (C := RX4) (T := TX4) (N := 5) hx hb hts in_X8_roots_X4 hown hK hP t23 (wl_at (x_lt (x_state0 h24)) e30) rfl 1 (by decide) (hts (.fieldLink RX8 145 "EightReasons$State" "tied" "I") (List.mem_of_getElem? (i := 2) rfl)) (fun _ h9 => h9) rfl dX8_roots_35 ?_
        obtain ⟨x31, x33, x34, x36, x37, e38, h32, h35⟩ := (ty_suit hT h18)
        refine tVI (As := [.int v19_l2, .int x25]) (rest := [.int v19_l2]) (i := t17) ⟨hx, hb, hml, hown, hts⟩ hK hE hP hD hS hA hAB (s_X5_behind_0 l B0 adK adV D cy ad fr0 tx rby rnx f hT t17 h18 v19_l2 (by omega) x25 (by omega) _) (cwV 2 hts gX8_roots_X5_behind rfl rfl rfl (by decide +kernel) ⟨Nat.le_of_ble_eq_true rfl, Nat.le_of_ble_eq_true rfl⟩) (x_lt (x_suit0 h18)) 5 e38 rfl rfl hl.1 rfl (Nat.le_of_ble_eq_true rfl) dX8_roots_38 ⟨Nat.le_of_ble_eq_true rfl, Nat.le_of_ble_eq_true rfl⟩ (fun r g H locs hw hP hD hS => ?_)
        obtain ⟨hrs, rfl⟩ := hw
        obtain ⟨x39, rfl⟩ : ∃ q, q = r := ⟨_, rfl⟩
        have h40 := hrs
        refine lv_ior hx hb dX8_roots_41 ?_
        refine lv_topi (fun x41 ex41 => ?_)
        have hx41 := r_or (k := 10) (K := 1024) ex41 (by decide) (by decide) (by omega) (by omega) (by omega) (by omega)
        refine lv_istore_n (lv' := [(2, .int x41), (3, .int v19_l3), (0, .ref (ad 0)), (1, .int p1)]) hx hb dX8_roots_42 rfl hl (by decide) rfl (fun ls hl => ?_)
        obtain ⟨x42, ex42⟩ : ∃ q : Int32, q = v19_l3 + Int32.ofInt (1) := ⟨_, rfl⟩
        refine lv_iinc (v := x42) (lv' := [(3, .int x42), (2, .int x41), (0, .ref (ad 0)), (1, .int p1)]) hx hb dX8_roots_43 hl (k := 1) rfl ex42.symm (by decide) rfl (fun ls hl => ?_)
        have hx42 := r_inc ex42 (by decide) (by omega) (by omega)
        refine lv_goto (tgt := 19) hx hb dX8_roots_46 (by decide) ?_
        exact ih19 H locs ls x42 x41 (by omega) (by omega) (by omega) (by omega) hP hD hS (lv_sub hl [0, 1, 2, 3] rfl)
  refine lv_aload_n hx hb dX8_roots_0 rfl (lv_at hl 0 rfl) ?_
  obtain ⟨t43, x45, x46, e48, h44, h47⟩ := (show okX8 ad tx 0 (f 0) from hT.1 0 (by decide))
  refine va_get (D := D) (cl := vwCl) (ci := 8) (v := .ref (ad t43)) (C := RX8) (T := TX8) (N := 13) hx hb hts in_X8_roots_X8 hown hK hP 0 (wl_at (by decide) e48) rfl 1 (by decide) (hts (.fieldLink RX8 19 "EightReasons" "told" "LEightReasons$Suit;") (List.mem_of_getElem? (i := 1) rfl)) (fun _ h9 => h9) rfl dX8_roots_1 ?_
  refine lv_iload_n hx hb dX8_roots_4 rfl (lv_at hl 1 rfl) ?_
  obtain ⟨x49, x51, x52, x54, x55, e56, h50, h53⟩ := (ty_suit hT h44)
  refine tVI (As := [.int p1]) (rest := []) (i := t43) ⟨hx, hb, hml, hown, hts⟩ hK hE hP hD hS hA hAB (s_X5_isClaim_0 l B0 adK adV D cy ad fr0 tx rby rnx f hT t43 h44 p1 _) (cwV 1 hts gX8_roots_X5_isClaim rfl rfl rfl (by decide +kernel) ⟨Nat.le_of_ble_eq_true rfl, Nat.le_of_ble_eq_true rfl⟩) (x_lt (x_suit0 h44)) 5 e56 rfl rfl hl.1 rfl (Nat.le_of_ble_eq_true rfl) dX8_roots_5 ⟨Nat.le_of_ble_eq_true rfl, Nat.le_of_ble_eq_true rfl⟩ (fun r g H locs hw hP hD hS => ?_)
  obtain ⟨hrs, rfl⟩ := hw
  obtain ⟨x57, rfl⟩ : ∃ q, q = r := ⟨_, rfl⟩
  rcases hrs with ⟨rfl, h58, h59⟩ | rfl
  · refine lv_if_ne (tgt := 13) hx hb dX8_roots_8 (by decide) (fun _ => ?_) (fun c => absurd c (by decide))
    refine lv_iconst (v := 1) hx hb dX8_roots_13 (by decide) ?_
    refine lv_iload_n hx hb dX8_roots_14 rfl (lv_at hl 1 rfl) ?_
    refine lv_ishl hx hb dX8_roots_15 ?_
    refine lv_topi (fun x60 ex60 => ?_)
    have hx60 := r_shl (K := 9) (M := 512) ex60 (by decide) (by decide) (by omega) (by omega)
    refine lv_istore_n (lv' := [(2, .int x60), (0, .ref (ad 0)), (1, .int p1)]) hx hb dX8_roots_16 rfl hl (by decide) rfl (fun ls hl => ?_)
    refine lv_iconst (v := 0) hx hb dX8_roots_17 (by decide) ?_
    refine lv_istore_n (lv' := [(3, .int 0), (2, .int x60), (0, .ref (ad 0)), (1, .int p1)]) hx hb dX8_roots_18 rfl hl (by decide) rfl (fun ls hl => ?_)
    have ttl_0 := tl_0
    exact j19 (Int.toNat (11 - (0 : Int32).toInt)) H locs ls (0 : Int32) x60 (by omega) (by omega) (by omega) (by omega) hP hD hS (lv_sub hl [0, 1, 2, 3] rfl)
  · refine lv_if_ne (tgt := 13) hx hb dX8_roots_8 (by decide) (fun c => absurd (by decide) c) (fun _ => ?_)
    refine lv_iconst (v := (-1)) hx hb dX8_roots_11 (by decide) ?_
    have ttl_m1 := tl_m1
    exact tI hx hb hr hlk rfl hP hS ⟨(by omega), rfl⟩ dX8_roots_12
set_option maxHeartbeats 4000000 in
set_option maxRecDepth 100000 in
theorem s_X2_need_0 (l : Launch) (B0 : Nat) (adK adV : Nat → Nat) (D : va_G) (cy : Nat → ClassId) (ad : Nat → Nat) (fr0 : Nat → va_E) (tx : Int32) (rby : Int32) (rnx : Int32) (f : Nat → va_E) (hT : TYx ad cy fr0 tx rby rnx f) (p1 : Int32) (hp1 : 0 ≤ p1.toInt ∧ p1.toInt ≤ 9) (p2 : Int32) (hp2 : 0 ≤ p2.toInt ∧ p2.toInt ≤ 99) (sz : Nat) : TtV l yX2_need wsX2_need 2 42 [.ref (ad 10), .int p1, .int p2] B0 adK adV D cy ad f sz (fun (g : Nat → va_E) => True ∧ (TYx ad cy fr0 tx rby rnx g)) := by
  refine TtV.of (cc := cX2_need) (maxL := 3) (own := RX2) (by decide) rfl (Nat.le_of_ble_eq_true rfl) rfl ?_
  intro p e s m below meth c A ls hx hb hr hml hts hown hlk hK hE hP hD hS hA hAB hl
  have hl : lv_has ls 3 [(0, .ref (ad 10)), (1, .int p1), (2, .int p2)] := hl
  refine st0 (fun H locs hP hS => ?_) hP hS
  refine lv_aload_n hx hb dX2_need_0 rfl (lv_at hl 0 rfl) ?_
  obtain ⟨x1, t2, x4, x5, e6, h3⟩ := (show okX2 ad 10 (f 10) from hT.1 10 (by decide))
  refine va_get (D := D) (cl := vwCl) (ci := 2) (v := .ref (ad t2)) (C := RX2) (T := TX2) (N := 10) hx hb hts in_X2_need_X2 hown hK hP 10 (wl_at (by decide) e6) rfl 4 (by decide) (hts (.fieldLink RX2 24 "EightReasons$Loom" "suit" "LEightReasons$Suit;") (List.mem_of_getElem? (i := 1) rfl)) (fun _ h9 => h9) rfl dX2_need_1 ?_
  refine lv_iload_n hx hb dX2_need_4 rfl (lv_at hl 1 rfl) ?_
  obtain ⟨x7, x9, x10, x12, x13, e14, h8, h11⟩ := (ty_suit hT h3)
  refine tVI (As := [.int p1]) (rest := []) (i := t2) ⟨hx, hb, hml, hown, hts⟩ hK hE hP hD hS hA hAB (s_X5_isClaim_0 l B0 adK adV D cy ad fr0 tx rby rnx f hT t2 h3 p1 _) (cwV 1 hts gX2_need_X5_isClaim rfl rfl rfl (by decide +kernel) ⟨Nat.le_of_ble_eq_true rfl, Nat.le_of_ble_eq_true rfl⟩) (x_lt (x_suit0 h3)) 5 e14 rfl rfl hl.1 rfl (Nat.le_of_ble_eq_true rfl) dX2_need_5 ⟨Nat.le_of_ble_eq_true rfl, Nat.le_of_ble_eq_true rfl⟩ (fun r g H locs hw hP hD hS => ?_)
  obtain ⟨hrs, rfl⟩ := hw
  obtain ⟨x15, rfl⟩ : ∃ q, q = r := ⟨_, rfl⟩
  rcases hrs with ⟨rfl, h16, h17⟩ | rfl
  · refine lv_if_eq (tgt := 28) hx hb dX2_need_8 (by decide) (fun c => absurd c (by decide)) (fun _ => ?_)
    refine lv_aload_n hx hb dX2_need_11 rfl (lv_at hl 0 rfl) ?_
    refine va_get (D := D) (cl := vwCl) (ci := 2) (v := .ref (ad 15)) (C := RX2) (T := TX2) (N := 10) hx hb hts in_X2_need_X2 hown hK hP 10 (wl_at (by decide) e6) rfl 7 (by decide) (hts (.fieldLink RX2 31 "EightReasons$Loom" "needs" "[I") (List.mem_of_getElem? (i := 2) rfl)) (fun _ h9 => h9) rfl dX2_need_12 ?_
    refine lv_iload_n hx hb dX2_need_15 rfl (lv_at hl 1 rfl) ?_
    refine lv_iload_n hx hb dX2_need_16 rfl (lv_at hl 2 rfl) ?_
    obtain ⟨g19, e18⟩ := (show okI cy 10 (f 15) from hT.1 15 (by decide))
    refine va_iast hx hb hK hP hD hS 15 0 (wl_at (by decide) e18) rfl (vp_in_iff.mpr ⟨by omega, by omega⟩) dX2_need_17 (fun H locs hP hD hS => ?_)
    obtain ⟨f, hT, hP, hD, e20, hj21⟩ := stU (by decide) (TYx.up hT (by decide) (show OKx ad cy tx rby rnx 15 _ from (show okI cy 10 _ from ⟨_, rfl⟩))) hP hD
    have e22 := (hj21 10 (by decide)).trans e6
    refine lv_aload_n hx hb dX2_need_18 rfl (lv_at hl 0 rfl) ?_
    refine lv_dup hx hb dX2_need_19 rfl ?_
    refine va_get (D := D) (cl := vwCl) (ci := 2) (v := .int x5) (C := RX2) (T := TX2) (N := 10) hx hb hts in_X2_need_X2 hown hK hP 10 (wl_at (by decide) e22) rfl 9 (by decide) (hts (.fieldLink RX2 61 "EightReasons$Loom" "era" "I") (List.mem_of_getElem? (i := 3) rfl)) (fun _ h9 => h9) rfl dX2_need_20 ?_
    refine lv_iconst (v := 1) hx hb dX2_need_23 (by decide) ?_
    refine lv_iadd hx hb dX2_need_24 ?_
    refine lv_topi (fun x23 ex23 => ?_)
    refine va_put (D := D) (cl := vwCl) (ci := 2) (v := .int x23) (ty := tyX2 9) (C := RX2) (T := TX2) (N := 10) hx hb hts in_X2_need_X2 tyX2 tyX2_ok nmX2 hown hK hP hD hS 10 (wl_at (by decide) e22) rfl 9 (by decide) (hts (.fieldLink RX2 61 "EightReasons$Loom" "era" "I") (List.mem_of_getElem? (i := 3) rfl)) (fun _ h9 => h9) rfl (tyX2_ok 9 (by decide)) rfl rfl (Nat.le_of_ble_eq_true rfl) dX2_need_25 (fun H locs hP hD hS => ?_)
    obtain ⟨f, hT, hP, hD, e24, hj25⟩ := stU (by decide) (TYx.up hT (by decide) (show OKx ad cy tx rby rnx 10 _ from (show okX2 ad 10 _ from ⟨x1, t2, x4, x23, rfl, h3⟩))) hP hD
    exact tV hx hb hr hlk hP hS ⟨trivial, hT⟩ dX2_need_28
  · refine lv_if_eq (tgt := 28) hx hb dX2_need_8 (by decide) (fun _ => ?_) (fun c => absurd (by decide) c)
    exact tV hx hb hr hlk hP hS ⟨trivial, hT⟩ dX2_need_28
set_option maxHeartbeats 4000000 in
set_option maxRecDepth 100000 in
theorem s_X8_law_0 (l : Launch) (B0 : Nat) (adK adV : Nat → Nat) (D : va_G) (cy : Nat → ClassId) (ad : Nat → Nat) (fr0 : Nat → va_E) (tx : Int32) (rby : Int32) (rnx : Int32) (f : Nat → va_E) (hT : TYx ad cy fr0 tx rby rnx f) (p1 : Int32) (sz : Nat) : TtI l yX8_law wsX8_law 6 145 [.ref (ad 0), .int p1] B0 adK adV D cy ad f sz (fun (r : Int32) (g : Nat → va_E) => (-1 ≤ r.toInt ∧ r.toInt ≤ 63) ∧ (TYx ad cy fr0 tx rby rnx g)) := by
  refine TtI.of (cc := cX8_law) (maxL := 3) (ty := .int) (own := RX8) (by decide) rfl (Nat.le_of_ble_eq_true rfl) rfl ?_
  intro p e s m below meth c A ls hx hb hr hml hts hown hlk hK hE hP hD hS hA hAB hl
  have hl : lv_has ls 3 [(0, .ref (ad 0)), (1, .int p1)] := hl
  refine st0 (fun H locs hP hS => ?_) hP hS
  have j18 : ∀ (N : Nat) (f : Nat → va_E) (H : Heap) (locs : List Loc) (ls : Array Slot) (v18_l2 : Int32), (11 - v18_l2.toInt ≤ (N : Int)) → (0 ≤ v18_l2.toInt ∧ v18_l2.toInt ≤ 10) → (0 ≤ p1.toInt ∧ p1.toInt ≤ 99) → (TYx ad cy fr0 tx rby rnx f) → (va_P D vwCl (wl ad f) H) → (va_D A (wl ad f)) → (va_S A s.heap H locs) → (lv_has ls 3 [(2, .int v18_l2), (0, .ref (ad 0)), (1, .int p1)]) → W p l e (rmO 6 145 0 0) s m ([.ref (ad 0), .int p1] : List Value).toArray below meth c H locs 0 0 (MQ below (va_Qi (fun (r : Int32) (g : Nat → va_E) => (-1 ≤ r.toInt ∧ r.toInt ≤ 63) ∧ (TYx ad cy fr0 tx rby rnx g)) (fun g t => PstT D ad g t) A) ([.ref (ad 0), .int p1] : List Value).toArray s 0 0 A) (F0 m 18 ls []) := by
    intro N
    induction N with
    | zero => intro f H locs ls v18_l2 hN hv18_l2 hv18_l1 hT hP hD hS hl; exact absurd hN (by omega)
    | succ N ih18 =>
      intro f H locs ls v18_l2 hN hv18_l2 hv18_l1 hT hP hD hS hl
      have j49 : ∀ (f : Nat → va_E) (H : Heap) (locs : List Loc) (ls : Array Slot), (0 ≤ v18_l2.toInt ∧ v18_l2.toInt ≤ 9) → (0 ≤ p1.toInt ∧ p1.toInt ≤ 99) → (TYx ad cy fr0 tx rby rnx f) → (va_P D vwCl (wl ad f) H) → (va_D A (wl ad f)) → (va_S A s.heap H locs) → (lv_has ls 3 [(2, .int v18_l2), (0, .ref (ad 0)), (1, .int p1)]) → W p l e (rmO 6 145 0 0) s m ([.ref (ad 0), .int p1] : List Value).toArray below meth c H locs 0 0 (MQ below (va_Qi (fun (r : Int32) (g : Nat → va_E) => (-1 ≤ r.toInt ∧ r.toInt ≤ 63) ∧ (TYx ad cy fr0 tx rby rnx g)) (fun g t => PstT D ad g t) A) ([.ref (ad 0), .int p1] : List Value).toArray s 0 0 A) (F0 m 49 ls []) := by
        intro f H locs ls hv49_l2 hv49_l1 hT hP hD hS hl
        obtain ⟨x1, ex1⟩ : ∃ q : Int32, q = v18_l2 + Int32.ofInt (1) := ⟨_, rfl⟩
        refine lv_iinc (v := x1) (lv' := [(2, .int x1), (0, .ref (ad 0)), (1, .int p1)]) hx hb dX8_law_49 hl (k := 0) rfl ex1.symm (by decide) rfl (fun ls hl => ?_)
        have hx1 := r_inc ex1 (by decide) (by omega) (by omega)
        refine lv_goto (tgt := 18) hx hb dX8_law_52 (by decide) ?_
        exact ih18 f H locs ls x1 (by omega) (by omega) (by omega) hT hP hD hS (lv_sub hl [0, 1, 2] rfl)
      refine lv_iload_n hx hb dX8_law_18 rfl (lv_at hl 0 rfl) ?_
      refine lv_aload_n hx hb dX8_law_19 rfl (lv_at hl 1 rfl) ?_
      obtain ⟨t2, x4, x5, e7, h3, h6⟩ := (show okX8 ad tx 0 (f 0) from hT.1 0 (by decide))
      refine va_get (D := D) (cl := vwCl) (ci := 8) (v := .ref (ad t2)) (C := RX8) (T := TX8) (N := 13) hx hb hts in_X8_law_X8 hown hK hP 0 (wl_at (by decide) e7) rfl 1 (by decide) (hts (.fieldLink RX8 19 "EightReasons" "told" "LEightReasons$Suit;") (List.mem_of_getElem? (i := 1) rfl)) (fun _ h9 => h9) rfl dX8_law_20 ?_
      obtain ⟨x8, x10, x11, x13, x14, e15, h9, h12⟩ := (ty_suit hT h3)
      refine va_get (D := D) (cl := vwCl) (ci := 5) (v := .int x8) (C := RX5) (T := TX5) (N := 12) hx hb hts in_X8_law_X5 hown hK hP t2 (wl_at (x_lt (x_suit0 h3)) e15) rfl 0 (by decide) (hts (.fieldLink RX8 105 "EightReasons$Suit" "points" "I") (List.mem_of_getElem? (i := 2) rfl)) (fun _ h9 => h9) rfl dX8_law_23 ?_
      refine lv_icmp_ge (tgt := 55) hx hb dX8_law_26 (by decide) (fun c16 => ?_) (fun c16 => ?_)
      · have kc16 := c_le c16
        refine lv_aload_n hx hb dX8_law_55 rfl (lv_at hl 1 rfl) ?_
        refine lv_aload_n hx hb dX8_law_56 rfl (lv_at hl 1 rfl) ?_
        refine tVR (As := []) (rest := [.ref (ad 0)]) (i := 0) ⟨hx, hb, hml, hown, hts⟩ hK hE hP hD hS hA hAB (s_X8_now_0 l B0 adK adV D cy ad fr0 tx rby rnx f hT _) (cwV 0 hts gX8_law_X8_now rfl rfl rfl (by decide +kernel) ⟨Nat.le_of_ble_eq_true rfl, Nat.le_of_ble_eq_true rfl⟩) (by decide) 8 e7 rfl rfl hl.1 rfl (Nat.le_of_ble_eq_true rfl) dX8_law_57 ⟨Nat.le_of_ble_eq_true rfl, Nat.le_of_ble_eq_true rfl⟩ (fun ra g H locs hw hra hP hD hS => ?_)
        obtain ⟨hrs, rfl⟩ := hw
        obtain ⟨t17, h18, rfl⟩ := hra
        obtain ⟨x19, x21, x22, x23, e24, h20⟩ := (ty_state hT h18)
        refine va_get (D := D) (cl := vwCl) (ci := 4) (v := .int x19) (C := RX4) (T := TX4) (N := 5) hx hb hts in_X8_law_X4 hown hK hP t17 (wl_at (x_lt (x_state0 h18)) e24) rfl 1 (by decide) (hts (.fieldLink RX8 145 "EightReasons$State" "tied" "I") (List.mem_of_getElem? (i := 4) rfl)) (fun _ h9 => h9) rfl dX8_law_60 ?_
        refine tVI (As := [.int x19]) (rest := []) (i := 0) ⟨hx, hb, hml, hown, hts⟩ hK hE hP hD hS hA hAB (s_X8_claimsWith_0 l B0 adK adV D cy ad fr0 tx rby rnx f hT x19 (by omega) _) (cwV 1 hts gX8_law_X8_claimsWith rfl rfl rfl (by decide +kernel) ⟨Nat.le_of_ble_eq_true rfl, Nat.le_of_ble_eq_true rfl⟩) (by decide) 8 e7 rfl rfl hl.1 rfl (Nat.le_of_ble_eq_true rfl) dX8_law_63 ⟨Nat.le_of_ble_eq_true rfl, Nat.le_of_ble_eq_true rfl⟩ (fun r f H locs hw hP hD hS => ?_)
        obtain ⟨hrs, hT⟩ := hw
        obtain ⟨x25, rfl⟩ : ∃ q, q = r := ⟨_, rfl⟩
        have h26 := hrs
        exact tI hx hb hr hlk rfl hP hS ⟨(by omega), hT⟩ dX8_law_66
      · have kc16 := c_nle c16
        refine lv_aload_n hx hb dX8_law_29 rfl (lv_at hl 1 rfl) ?_
        refine va_get (D := D) (cl := vwCl) (ci := 8) (v := .ref (ad t2)) (C := RX8) (T := TX8) (N := 13) hx hb hts in_X8_law_X8 hown hK hP 0 (wl_at (by decide) e7) rfl 1 (by decide) (hts (.fieldLink RX8 19 "EightReasons" "told" "LEightReasons$Suit;") (List.mem_of_getElem? (i := 1) rfl)) (fun _ h9 => h9) rfl dX8_law_30 ?_
        refine lv_iload_n hx hb dX8_law_33 rfl (lv_at hl 0 rfl) ?_
        refine tVI (As := [.int v18_l2]) (rest := []) (i := t2) ⟨hx, hb, hml, hown, hts⟩ hK hE hP hD hS hA hAB (s_X5_isClaim_0 l B0 adK adV D cy ad fr0 tx rby rnx f hT t2 h3 v18_l2 _) (cwV 1 hts gX8_law_X5_isClaim rfl rfl rfl (by decide +kernel) ⟨Nat.le_of_ble_eq_true rfl, Nat.le_of_ble_eq_true rfl⟩) (x_lt (x_suit0 h3)) 5 e15 rfl rfl hl.1 rfl (Nat.le_of_ble_eq_true rfl) dX8_law_34 ⟨Nat.le_of_ble_eq_true rfl, Nat.le_of_ble_eq_true rfl⟩ (fun r g H locs hw hP hD hS => ?_)
        obtain ⟨hrs, rfl⟩ := hw
        obtain ⟨x27, rfl⟩ : ∃ q, q = r := ⟨_, rfl⟩
        rcases hrs with ⟨rfl, h28, h29⟩ | rfl
        · refine lv_if_eq (tgt := 49) hx hb dX8_law_37 (by decide) (fun c => absurd c (by decide)) (fun _ => ?_)
          refine lv_aload_n hx hb dX8_law_40 rfl (lv_at hl 1 rfl) ?_
          refine va_get (D := D) (cl := vwCl) (ci := 8) (v := .ref (ad 10)) (C := RX8) (T := TX8) (N := 13) hx hb hts in_X8_law_X8 hown hK hP 0 (wl_at (by decide) e7) rfl 6 (by decide) (hts (.fieldLink RX8 44 "EightReasons" "loom" "LEightReasons$Loom;") (List.mem_of_getElem? (i := 3) rfl)) (fun _ h9 => h9) rfl dX8_law_41 ?_
          refine lv_iload_n hx hb dX8_law_44 rfl (lv_at hl 0 rfl) ?_
          refine lv_iload_n hx hb dX8_law_45 rfl (lv_at hl 2 rfl) ?_
          obtain ⟨x30, t31, x33, x34, e35, h32⟩ := (show okX2 ad 10 (f 10) from hT.1 10 (by decide))
          refine tVV (As := [.int v18_l2, .int p1]) (rest := []) (i := 10) ⟨hx, hb, hml, hown, hts⟩ hK hE hP hD hS hA hAB (s_X2_need_0 l B0 adK adV D cy ad fr0 tx rby rnx f hT v18_l2 (by omega) p1 (by omega) _) (cwV 2 hts gX8_law_X2_need rfl rfl rfl (by decide +kernel) ⟨Nat.le_of_ble_eq_true rfl, Nat.le_of_ble_eq_true rfl⟩) (by decide) 2 e35 rfl rfl hl.1 rfl (Nat.le_of_ble_eq_true rfl) dX8_law_46 ⟨Nat.le_of_ble_eq_true rfl, Nat.le_of_ble_eq_true rfl⟩ (fun f H locs hw hP hD hS => ?_)
          obtain ⟨hrs, hT⟩ := hw
          exact j49 f H locs ls (by omega) (by omega) hT hP hD hS (lv_sub hl [0, 1, 2] rfl)
        · refine lv_if_eq (tgt := 49) hx hb dX8_law_37 (by decide) (fun _ => ?_) (fun c => absurd (by decide) c)
          exact j49 f H locs ls (by omega) (by omega) hT hP hD hS (lv_sub hl [0, 1, 2] rfl)
  refine lv_iload_n hx hb dX8_law_0 rfl (lv_at hl 1 rfl) ?_
  have ttl_0 := tl_0
  refine lv_if_lt (tgt := 10) hx hb dX8_law_1 (by decide) (fun c36 => ?_) (fun c36 => ?_)
  · have kc36 := c_lt c36
    refine lv_iconst (v := (-1)) hx hb dX8_law_10 (by decide) ?_
    have ttl_m1 := tl_m1
    exact tI hx hb hr hlk rfl hP hS ⟨(by omega), hT⟩ dX8_law_11
  · have kc36 := c_nlt c36
    refine lv_iload_n hx hb dX8_law_4 rfl (lv_at hl 1 rfl) ?_
    refine lv_bipush (v := 99) hx hb dX8_law_5 (by decide) ?_
    have ttl_99 := tl_99
    refine lv_icmp_le (tgt := 12) hx hb dX8_law_7 (by decide) (fun c37 => ?_) (fun c37 => ?_)
    · have kc37 := c_le c37
      refine lv_aload_n hx hb dX8_law_12 rfl (lv_at hl 0 rfl) ?_
      obtain ⟨t38, x40, x41, e43, h39, h42⟩ := (show okX8 ad tx 0 (f 0) from hT.1 0 (by decide))
      refine tVV (As := []) (rest := []) (i := 0) ⟨hx, hb, hml, hown, hts⟩ hK hE hP hD hS hA hAB (s_X8_look_0 l B0 adK adV D cy ad fr0 tx rby rnx f hT _) (cwV 0 hts gX8_law_X8_look rfl rfl rfl (by decide +kernel) ⟨Nat.le_of_ble_eq_true rfl, Nat.le_of_ble_eq_true rfl⟩) (by decide) 8 e43 rfl rfl hl.1 rfl (Nat.le_of_ble_eq_true rfl) dX8_law_13 ⟨Nat.le_of_ble_eq_true rfl, Nat.le_of_ble_eq_true rfl⟩ (fun f H locs hw hP hD hS => ?_)
      obtain ⟨hrs, hT⟩ := hw
      refine lv_iconst (v := 0) hx hb dX8_law_16 (by decide) ?_
      refine lv_istore_n (lv' := [(2, .int 0), (0, .ref (ad 0)), (1, .int p1)]) hx hb dX8_law_17 rfl hl (by decide) rfl (fun ls hl => ?_)
      exact j18 (Int.toNat (11 - (0 : Int32).toInt)) f H locs ls (0 : Int32) (by omega) (by omega) (by omega) hT hP hD hS (lv_sub hl [0, 1, 2] rfl)
    · have kc37 := c_nle c37
      refine lv_iconst (v := (-1)) hx hb dX8_law_10 (by decide) ?_
      have ttl_m1 := tl_m1
      exact tI hx hb hr hlk rfl hP hS ⟨(by omega), hT⟩ dX8_law_11
set_option maxHeartbeats 4000000 in
set_option maxRecDepth 100000 in
theorem s_X8_worth_0 (l : Launch) (B0 : Nat) (adK adV : Nat → Nat) (D : va_G) (cy : Nat → ClassId) (ad : Nat → Nat) (fr0 : Nat → va_E) (tx : Int32) (rby : Int32) (rnx : Int32) (f : Nat → va_E) (hT : TYx ad cy fr0 tx rby rnx f) (p1 : Int32) (sz : Nat) : TtI l yX8_worth wsX8_worth 6 146 [.ref (ad 0), .int p1] B0 adK adV D cy ad f sz (fun (r : Int32) (g : Nat → va_E) => (-1 ≤ r.toInt ∧ r.toInt ≤ 99) ∧ (TYx ad cy fr0 tx rby rnx g)) := by
  refine TtI.of (cc := cX8_worth) (maxL := 3) (ty := .int) (own := RX8) (by decide) rfl (Nat.le_of_ble_eq_true rfl) rfl ?_
  intro p e s m below meth c A ls hx hb hr hml hts hown hlk hK hE hP hD hS hA hAB hl
  have hl : lv_has ls 3 [(0, .ref (ad 0)), (1, .int p1)] := hl
  refine st0 (fun H locs hP hS => ?_) hP hS
  have j20 : ∀ (N : Nat) (f : Nat → va_E) (H : Heap) (locs : List Loc) (ls : Array Slot) (v20_l2 : Int32), (v20_l2.toInt - (-2) ≤ (N : Int)) → (-1 ≤ v20_l2.toInt ∧ v20_l2.toInt ≤ 99) → (0 ≤ p1.toInt ∧ p1.toInt ≤ 9) → (TYx ad cy fr0 tx rby rnx f) → (va_P D vwCl (wl ad f) H) → (va_D A (wl ad f)) → (va_S A s.heap H locs) → (lv_has ls 3 [(2, .int v20_l2), (0, .ref (ad 0)), (1, .int p1)]) → W p l e (rmO 6 146 0 0) s m ([.ref (ad 0), .int p1] : List Value).toArray below meth c H locs 0 0 (MQ below (va_Qi (fun (r : Int32) (g : Nat → va_E) => (-1 ≤ r.toInt ∧ r.toInt ≤ 99) ∧ (TYx ad cy fr0 tx rby rnx g)) (fun g t => PstT D ad g t) A) ([.ref (ad 0), .int p1] : List Value).toArray s 0 0 A) (F0 m 20 ls []) := by
    intro N
    induction N with
    | zero => intro f H locs ls v20_l2 hN hv20_l2 hv20_l1 hT hP hD hS hl; exact absurd hN (by omega)
    | succ N ih20 =>
      intro f H locs ls v20_l2 hN hv20_l2 hv20_l1 hT hP hD hS hl
      refine lv_iload_n hx hb dX8_worth_20 rfl (lv_at hl 0 rfl) ?_
      have ttl_0 := tl_0
      refine lv_if_lt (tgt := 56) hx hb dX8_worth_21 (by decide) (fun c1 => ?_) (fun c1 => ?_)
      · have kc1 := c_lt c1
        refine lv_iconst (v := (-1)) hx hb dX8_worth_56 (by decide) ?_
        have ttl_m1 := tl_m1
        exact tI hx hb hr hlk rfl hP hS ⟨(by omega), hT⟩ dX8_worth_57
      · have kc1 := c_nlt c1
        refine lv_aload_n hx hb dX8_worth_24 rfl (lv_at hl 1 rfl) ?_
        obtain ⟨t2, x4, x5, e7, h3, h6⟩ := (show okX8 ad tx 0 (f 0) from hT.1 0 (by decide))
        refine va_get (D := D) (cl := vwCl) (ci := 8) (v := .ref (ad 10)) (C := RX8) (T := TX8) (N := 13) hx hb hts in_X8_worth_X8 hown hK hP 0 (wl_at (by decide) e7) rfl 6 (by decide) (hts (.fieldLink RX8 44 "EightReasons" "loom" "LEightReasons$Loom;") (List.mem_of_getElem? (i := 2) rfl)) (fun _ h9 => h9) rfl dX8_worth_25 ?_
        refine lv_iload_n hx hb dX8_worth_28 rfl (lv_at hl 2 rfl) ?_
        refine lv_iload_n hx hb dX8_worth_29 rfl (lv_at hl 0 rfl) ?_
        obtain ⟨x8, t9, x11, x12, e13, h10⟩ := (show okX2 ad 10 (f 10) from hT.1 10 (by decide))
        refine tVV (As := [.int p1, .int v20_l2]) (rest := []) (i := 10) ⟨hx, hb, hml, hown, hts⟩ hK hE hP hD hS hA hAB (s_X2_need_0 l B0 adK adV D cy ad fr0 tx rby rnx f hT p1 (by omega) v20_l2 (by omega) _) (cwV 2 hts gX8_worth_X2_need rfl rfl rfl (by decide +kernel) ⟨Nat.le_of_ble_eq_true rfl, Nat.le_of_ble_eq_true rfl⟩) (by decide) 2 e13 rfl rfl hl.1 rfl (Nat.le_of_ble_eq_true rfl) dX8_worth_30 ⟨Nat.le_of_ble_eq_true rfl, Nat.le_of_ble_eq_true rfl⟩ (fun f H locs hw hP hD hS => ?_)
        obtain ⟨hrs, hT⟩ := hw
        refine lv_aload_n hx hb dX8_worth_33 rfl (lv_at hl 1 rfl) ?_
        refine lv_iload_n hx hb dX8_worth_34 rfl (lv_at hl 2 rfl) ?_
        refine lv_aload_n hx hb dX8_worth_35 rfl (lv_at hl 1 rfl) ?_
        obtain ⟨t14, x16, x17, e19, h15, h18⟩ := (show okX8 ad tx 0 (f 0) from hT.1 0 (by decide))
        refine tVR (As := []) (rest := [.int p1, .ref (ad 0)]) (i := 0) ⟨hx, hb, hml, hown, hts⟩ hK hE hP hD hS hA hAB (s_X8_now_0 l B0 adK adV D cy ad fr0 tx rby rnx f hT _) (cwV 0 hts gX8_worth_X8_now rfl rfl rfl (by decide +kernel) ⟨Nat.le_of_ble_eq_true rfl, Nat.le_of_ble_eq_true rfl⟩) (by decide) 8 e19 rfl rfl hl.1 rfl (Nat.le_of_ble_eq_true rfl) dX8_worth_36 ⟨Nat.le_of_ble_eq_true rfl, Nat.le_of_ble_eq_true rfl⟩ (fun ra g H locs hw hra hP hD hS => ?_)
        obtain ⟨hrs, rfl⟩ := hw
        obtain ⟨t20, h21, rfl⟩ := hra
        obtain ⟨x22, x24, x25, x26, e27, h23⟩ := (ty_state hT h21)
        refine va_get (D := D) (cl := vwCl) (ci := 4) (v := .int x22) (C := RX4) (T := TX4) (N := 5) hx hb hts in_X8_worth_X4 hown hK hP t20 (wl_at (x_lt (x_state0 h21)) e27) rfl 1 (by decide) (hts (.fieldLink RX8 145 "EightReasons$State" "tied" "I") (List.mem_of_getElem? (i := 3) rfl)) (fun _ h9 => h9) rfl dX8_worth_39 ?_
        refine tVI (As := [.int p1, .int x22]) (rest := []) (i := 0) ⟨hx, hb, hml, hown, hts⟩ hK hE hP hD hS hA hAB (s_X8_isUp_0 l B0 adK adV D cy ad fr0 tx rby rnx f hT p1 (by omega) x22 (by omega) _) (cwV 2 hts gX8_worth_X8_isUp rfl rfl rfl (by decide +kernel) ⟨Nat.le_of_ble_eq_true rfl, Nat.le_of_ble_eq_true rfl⟩) (by decide) 8 e19 rfl rfl hl.1 rfl (Nat.le_of_ble_eq_true rfl) dX8_worth_42 ⟨Nat.le_of_ble_eq_true rfl, Nat.le_of_ble_eq_true rfl⟩ (fun r f H locs hw hP hD hS => ?_)
        obtain ⟨hrs, hT⟩ := hw
        obtain ⟨x28, rfl⟩ : ∃ q, q = r := ⟨_, rfl⟩
        rcases hrs with rfl | rfl
        · refine lv_if_eq (tgt := 50) hx hb dX8_worth_45 (by decide) (fun c => absurd c (by decide)) (fun _ => ?_)
          refine lv_iload_n hx hb dX8_worth_48 rfl (lv_at hl 0 rfl) ?_
          exact tI hx hb hr hlk rfl hP hS ⟨(by omega), hT⟩ dX8_worth_49
        · refine lv_if_eq (tgt := 50) hx hb dX8_worth_45 (by decide) (fun _ => ?_) (fun c => absurd (by decide) c)
          obtain ⟨x29, ex29⟩ : ∃ q : Int32, q = v20_l2 + Int32.ofInt (-1) := ⟨_, rfl⟩
          refine lv_iinc (v := x29) (lv' := [(2, .int x29), (0, .ref (ad 0)), (1, .int p1)]) hx hb dX8_worth_50 hl (k := 0) rfl ex29.symm (by decide) rfl (fun ls hl => ?_)
          have hx29 := r_inc ex29 (by decide) (by omega) (by omega)
          refine lv_goto (tgt := 20) hx hb dX8_worth_53 (by decide) ?_
          exact ih20 f H locs ls x29 (by omega) (by omega) (by omega) hT hP hD hS (lv_sub hl [0, 1, 2] rfl)
  refine lv_aload_n hx hb dX8_worth_0 rfl (lv_at hl 0 rfl) ?_
  obtain ⟨t30, x32, x33, e35, h31, h34⟩ := (show okX8 ad tx 0 (f 0) from hT.1 0 (by decide))
  refine va_get (D := D) (cl := vwCl) (ci := 8) (v := .ref (ad t30)) (C := RX8) (T := TX8) (N := 13) hx hb hts in_X8_worth_X8 hown hK hP 0 (wl_at (by decide) e35) rfl 1 (by decide) (hts (.fieldLink RX8 19 "EightReasons" "told" "LEightReasons$Suit;") (List.mem_of_getElem? (i := 1) rfl)) (fun _ h9 => h9) rfl dX8_worth_1 ?_
  refine lv_iload_n hx hb dX8_worth_4 rfl (lv_at hl 1 rfl) ?_
  obtain ⟨x36, x38, x39, x41, x42, e43, h37, h40⟩ := (ty_suit hT h31)
  refine tVI (As := [.int p1]) (rest := []) (i := t30) ⟨hx, hb, hml, hown, hts⟩ hK hE hP hD hS hA hAB (s_X5_isClaim_0 l B0 adK adV D cy ad fr0 tx rby rnx f hT t30 h31 p1 _) (cwV 1 hts gX8_worth_X5_isClaim rfl rfl rfl (by decide +kernel) ⟨Nat.le_of_ble_eq_true rfl, Nat.le_of_ble_eq_true rfl⟩) (x_lt (x_suit0 h31)) 5 e43 rfl rfl hl.1 rfl (Nat.le_of_ble_eq_true rfl) dX8_worth_5 ⟨Nat.le_of_ble_eq_true rfl, Nat.le_of_ble_eq_true rfl⟩ (fun r g H locs hw hP hD hS => ?_)
  obtain ⟨hrs, rfl⟩ := hw
  obtain ⟨x44, rfl⟩ : ∃ q, q = r := ⟨_, rfl⟩
  rcases hrs with ⟨rfl, h45, h46⟩ | rfl
  · refine lv_if_ne (tgt := 13) hx hb dX8_worth_8 (by decide) (fun _ => ?_) (fun c => absurd c (by decide))
    refine lv_aload_n hx hb dX8_worth_13 rfl (lv_at hl 0 rfl) ?_
    refine tVV (As := []) (rest := []) (i := 0) ⟨hx, hb, hml, hown, hts⟩ hK hE hP hD hS hA hAB (s_X8_look_0 l B0 adK adV D cy ad fr0 tx rby rnx f hT _) (cwV 0 hts gX8_worth_X8_look rfl rfl rfl (by decide +kernel) ⟨Nat.le_of_ble_eq_true rfl, Nat.le_of_ble_eq_true rfl⟩) (by decide) 8 e35 rfl rfl hl.1 rfl (Nat.le_of_ble_eq_true rfl) dX8_worth_14 ⟨Nat.le_of_ble_eq_true rfl, Nat.le_of_ble_eq_true rfl⟩ (fun f H locs hw hP hD hS => ?_)
    obtain ⟨hrs, hT⟩ := hw
    refine lv_bipush (v := 99) hx hb dX8_worth_17 (by decide) ?_
    refine lv_istore_n (lv' := [(2, .int 99), (0, .ref (ad 0)), (1, .int p1)]) hx hb dX8_worth_19 rfl hl (by decide) rfl (fun ls hl => ?_)
    have ttl_99 := tl_99
    exact j20 (Int.toNat ((99 : Int32).toInt - (-2))) f H locs ls (99 : Int32) (by omega) (by omega) (by omega) hT hP hD hS (lv_sub hl [0, 1, 2] rfl)
  · refine lv_if_ne (tgt := 13) hx hb dX8_worth_8 (by decide) (fun c => absurd (by decide) c) (fun _ => ?_)
    refine lv_iconst (v := (-1)) hx hb dX8_worth_11 (by decide) ?_
    have ttl_m1 := tl_m1
    exact tI hx hb hr hlk rfl hP hS ⟨(by omega), hT⟩ dX8_worth_12
set_option maxHeartbeats 4000000 in
set_option maxRecDepth 100000 in
theorem s_X8_with_0 (l : Launch) (B0 : Nat) (adK adV : Nat → Nat) (D : va_G) (cy : Nat → ClassId) (ad : Nat → Nat) (fr0 : Nat → va_E) (tx : Int32) (rby : Int32) (rnx : Int32) (f : Nat → va_E) (hT : TYx ad cy fr0 tx rby rnx f) (p1 : Int32) (sz : Nat) : TtI l yX8_with wsX8_with 5 124 [.ref (ad 0), .int p1] B0 adK adV D cy ad f sz (fun (r : Int32) (g : Nat → va_E) => True ∧ (TYx ad cy fr0 tx rby rnx g)) := by
  refine TtI.of (cc := cX8_with) (maxL := 2) (ty := .int) (own := RX8) (by decide) rfl (Nat.le_of_ble_eq_true rfl) rfl ?_
  intro p e s m below meth c A ls hx hb hr hml hts hown hlk hK hE hP hD hS hA hAB hl
  have hl : lv_has ls 2 [(0, .ref (ad 0)), (1, .int p1)] := hl
  refine st0 (fun H locs hP hS => ?_) hP hS
  refine lv_iload_n hx hb dX8_with_0 rfl (lv_at hl 1 rfl) ?_
  refine lv_aload_n hx hb dX8_with_1 rfl (lv_at hl 0 rfl) ?_
  obtain ⟨t1, x3, x4, e6, h2, h5⟩ := (show okX8 ad tx 0 (f 0) from hT.1 0 (by decide))
  refine va_get (D := D) (cl := vwCl) (ci := 8) (v := .ref (ad t1)) (C := RX8) (T := TX8) (N := 13) hx hb hts in_X8_with_X8 hown hK hP 0 (wl_at (by decide) e6) rfl 1 (by decide) (hts (.fieldLink RX8 19 "EightReasons" "told" "LEightReasons$Suit;") (List.mem_of_getElem? (i := 1) rfl)) (fun _ h9 => h9) rfl dX8_with_2 ?_
  obtain ⟨x7, x9, x10, x12, x13, e14, h8, h11⟩ := (ty_suit hT h2)
  refine tVI (As := []) (rest := [.int p1]) (i := t1) ⟨hx, hb, hml, hown, hts⟩ hK hE hP hD hS hA hAB (s_X5_allStrands_0 l B0 adK adV D cy ad fr0 tx rby rnx f hT t1 h2 _) (cwV 0 hts gX8_with_X5_allStrands rfl rfl rfl (by decide +kernel) ⟨Nat.le_of_ble_eq_true rfl, Nat.le_of_ble_eq_true rfl⟩) (x_lt (x_suit0 h2)) 5 e14 rfl rfl hl.1 rfl (Nat.le_of_ble_eq_true rfl) dX8_with_5 ⟨Nat.le_of_ble_eq_true rfl, Nat.le_of_ble_eq_true rfl⟩ (fun r g H locs hw hP hD hS => ?_)
  obtain ⟨hrs, rfl⟩ := hw
  obtain ⟨x15, rfl⟩ : ∃ q, q = r := ⟨_, rfl⟩
  have h16 := hrs
  refine lv_iconst (v := (-1)) hx hb dX8_with_8 (by decide) ?_
  refine lv_ixor hx hb dX8_with_9 ?_
  refine lv_topi (fun x17 ex17 => ?_)
  refine lv_iand hx hb dX8_with_10 ?_
  refine lv_topi (fun x18 ex18 => ?_)
  have ttl_0 := tl_0
  refine lv_if_eq (tgt := 16) hx hb dX8_with_11 (by decide) (fun c19 => ?_) (fun c19 => ?_)
  · have kc19 := c_eq c19
    refine lv_aload_n hx hb dX8_with_16 rfl (lv_at hl 0 rfl) ?_
    refine tVV (As := []) (rest := []) (i := 0) ⟨hx, hb, hml, hown, hts⟩ hK hE hP hD hS hA hAB (s_X8_look_0 l B0 adK adV D cy ad fr0 tx rby rnx f hT _) (cwV 0 hts gX8_with_X8_look rfl rfl rfl (by decide +kernel) ⟨Nat.le_of_ble_eq_true rfl, Nat.le_of_ble_eq_true rfl⟩) (by decide) 8 e6 rfl rfl hl.1 rfl (Nat.le_of_ble_eq_true rfl) dX8_with_17 ⟨Nat.le_of_ble_eq_true rfl, Nat.le_of_ble_eq_true rfl⟩ (fun f H locs hw hP hD hS => ?_)
    obtain ⟨hrs, hT⟩ := hw
    refine lv_aload_n hx hb dX8_with_20 rfl (lv_at hl 0 rfl) ?_
    obtain ⟨t20, x22, x23, e25, h21, h24⟩ := (show okX8 ad tx 0 (f 0) from hT.1 0 (by decide))
    refine va_get (D := D) (cl := vwCl) (ci := 8) (v := .ref (ad 10)) (C := RX8) (T := TX8) (N := 13) hx hb hts in_X8_with_X8 hown hK hP 0 (wl_at (by decide) e25) rfl 6 (by decide) (hts (.fieldLink RX8 44 "EightReasons" "loom" "LEightReasons$Loom;") (List.mem_of_getElem? (i := 2) rfl)) (fun _ h9 => h9) rfl dX8_with_21 ?_
    refine lv_iload_n hx hb dX8_with_24 rfl (lv_at hl 1 rfl) ?_
    obtain ⟨x26, t27, x29, x30, e31, h28⟩ := (show okX2 ad 10 (f 10) from hT.1 10 (by decide))
    refine tVI (As := [.int p1]) (rest := []) (i := 10) ⟨hx, hb, hml, hown, hts⟩ hK hE hP hD hS hA hAB (s_X2_standing_0 l B0 adK adV D cy ad fr0 tx rby rnx f hT p1 _) (cwV 1 hts gX8_with_X2_standing rfl rfl rfl (by decide +kernel) ⟨Nat.le_of_ble_eq_true rfl, Nat.le_of_ble_eq_true rfl⟩) (by decide) 2 e31 rfl rfl hl.1 rfl (Nat.le_of_ble_eq_true rfl) dX8_with_25 ⟨Nat.le_of_ble_eq_true rfl, Nat.le_of_ble_eq_true rfl⟩ (fun r f H locs hw hP hD hS => ?_)
    obtain ⟨hrs, hT⟩ := hw
    obtain ⟨x32, rfl⟩ : ∃ q, q = r := ⟨_, rfl⟩
    have h33 := hrs
    exact tI hx hb hr hlk rfl hP hS ⟨trivial, hT⟩ dX8_with_28
  · have kc19 := c_ne c19
    refine lv_iconst (v := (-1)) hx hb dX8_with_14 (by decide) ?_
    have ttl_m1 := tl_m1
    exact tI hx hb hr hlk rfl hP hS ⟨trivial, hT⟩ dX8_with_15
