set_option maxRecDepth 20000 in
theorem ggX6_collect_J6_bitCount_0f7a4 : GoodIn wsX6_collect wsJ6_bitCount_0f7a4 := goodIn_r _ [5, 6, 7, 8] rfl rfl
set_option maxRecDepth 20000 in
theorem gX6_collect_J6_bitCount_0f7a4 : GoodIn wsX6_collect (va_wsS RX6 22 yJ6_bitCount_0f7a4 wsJ6_bitCount_0f7a4) := goodIn_app (goodIn_of _ (by decide +kernel)) ggX6_collect_J6_bitCount_0f7a4
set_option maxRecDepth 20000 in
theorem ggX6_collect_X2_standing : GoodIn wsX6_collect wsX2_standing := goodIn_r _ [13, 14, 15, 16, 17, 18, 12, 19, 20, 21, 22, 23, 24, 25, 26, 27, 28, 29, 30, 31, 32, 33, 34, 35, 36, 37, 38, 39, 40, 41, 42, 43, 44, 45, 46, 47, 3, 4, 5, 6, 7, 8, 48, 49, 50, 51, 52, 53, 54, 55, 56, 57, 58, 59, 60, 61, 62, 63, 64, 65, 66, 67, 68, 69, 70, 71, 72, 73, 74, 75, 76, 77, 78, 79, 80, 81, 82, 83, 84, 85, 86, 87, 88, 89, 90, 91, 92, 93, 94, 95, 96, 97, 122, 123, 124, 125, 126, 127, 128, 129, 130, 131, 132, 133, 134, 135, 136, 137, 138, 139, 140, 141, 142, 143, 144, 145, 146, 147, 148, 149] rfl rfl
set_option maxRecDepth 20000 in
theorem gX6_collect_X2_standing : GoodIn wsX6_collect (wsV RX6 28 RX2 yX2_standing wsX2_standing) := goodIn_app (goodIn_of _ (by decide +kernel)) ggX6_collect_X2_standing
set_option maxRecDepth 20000 in
theorem ggX6_collect_X7_fits : GoodIn wsX6_collect wsX7_fits := goodIn_r _ [102, 103, 104, 105, 106, 107, 108, 101, 109, 110, 111, 23, 24, 25, 150, 151, 152, 153, 154] rfl rfl
set_option maxRecDepth 20000 in
theorem gX6_collect_X7_fits : GoodIn wsX6_collect (wsV RX6 33 RX7 yX7_fits wsX7_fits) := goodIn_app (goodIn_of _ (by decide +kernel)) ggX6_collect_X7_fits
set_option maxRecDepth 20000 in
theorem ggX6_collect_X6_keep : GoodIn wsX6_collect wsX6_keep := goodIn_r _ [116, 1, 117, 118, 119, 120, 121] rfl rfl
set_option maxRecDepth 20000 in
theorem gX6_collect_X6_keep : GoodIn wsX6_collect (wsV RX6 39 RX6 yX6_keep wsX6_keep) := goodIn_app (goodIn_of _ (by decide +kernel)) ggX6_collect_X6_keep
theorem dX6_collect_0 : decode cX6_collect 0 = .ok (.aload_n 0, 1) := by decide +kernel
theorem dX6_collect_1 : decode cX6_collect 1 = .ok (.iconst 0, 1) := by decide +kernel
theorem dX6_collect_2 : decode cX6_collect 2 = .ok (.putfield 18, 3) := by decide +kernel
theorem dX6_collect_5 : decode cX6_collect 5 = .ok (.iconst 0, 1) := by decide +kernel
theorem dX6_collect_6 : decode cX6_collect 6 = .ok (.istore 5, 2) := by decide +kernel
theorem dX6_collect_8 : decode cX6_collect 8 = .ok (.iload 5, 2) := by decide +kernel
theorem dX6_collect_10 : decode cX6_collect 10 = .ok (.iload_n 2, 1) := by decide +kernel
theorem dX6_collect_11 : decode cX6_collect 11 = .ok (.if_icmp .gt 47, 3) := by decide +kernel
theorem dX6_collect_14 : decode cX6_collect 14 = .ok (.iload 5, 2) := by decide +kernel
theorem dX6_collect_16 : decode cX6_collect 16 = .ok (.invokestatic 22, 3) := by decide +kernel
theorem dX6_collect_19 : decode cX6_collect 19 = .ok (.iconst 2, 1) := by decide +kernel
theorem dX6_collect_20 : decode cX6_collect 20 = .ok (.if_icmp .gt 32, 3) := by decide +kernel
theorem dX6_collect_23 : decode cX6_collect 23 = .ok (.aload_n 1, 1) := by decide +kernel
theorem dX6_collect_24 : decode cX6_collect 24 = .ok (.iload_n 2, 1) := by decide +kernel
theorem dX6_collect_25 : decode cX6_collect 25 = .ok (.iload 5, 2) := by decide +kernel
theorem dX6_collect_27 : decode cX6_collect 27 = .ok (.ixor, 1) := by decide +kernel
theorem dX6_collect_28 : decode cX6_collect 28 = .ok (.invokevirtual 28, 3) := by decide +kernel
theorem dX6_collect_31 : decode cX6_collect 31 = .ok (.istore 6, 2) := by decide +kernel
theorem dX6_collect_33 : decode cX6_collect 33 = .ok (.aload_n 3, 1) := by decide +kernel
theorem dX6_collect_34 : decode cX6_collect 34 = .ok (.iload 6, 2) := by decide +kernel
theorem dX6_collect_36 : decode cX6_collect 36 = .ok (.iload 4, 2) := by decide +kernel
theorem dX6_collect_38 : decode cX6_collect 38 = .ok (.invokevirtual 33, 3) := by decide +kernel
theorem dX6_collect_41 : decode cX6_collect 41 = .ok (.ifCond .eq 11, 3) := by decide +kernel
theorem dX6_collect_44 : decode cX6_collect 44 = .ok (.aload_n 0, 1) := by decide +kernel
theorem dX6_collect_45 : decode cX6_collect 45 = .ok (.iload 5, 2) := by decide +kernel
theorem dX6_collect_47 : decode cX6_collect 47 = .ok (.iload 6, 2) := by decide +kernel
theorem dX6_collect_49 : decode cX6_collect 49 = .ok (.invokevirtual 39, 3) := by decide +kernel
theorem dX6_collect_52 : decode cX6_collect 52 = .ok (.iinc 5 1, 3) := by decide +kernel
theorem dX6_collect_55 : decode cX6_collect 55 = .ok (.goto (-47), 3) := by decide +kernel
theorem dX6_collect_58 : decode cX6_collect 58 = .ok (.return_, 1) := by decide +kernel
theorem dX6_keep_0 : decode cX6_keep 0 = .ok (.aload_n 0, 1) := by decide +kernel
theorem dX6_keep_1 : decode cX6_keep 1 = .ok (.getfield 18, 3) := by decide +kernel
theorem dX6_keep_4 : decode cX6_keep 4 = .ok (.bipush 79, 2) := by decide +kernel
theorem dX6_keep_6 : decode cX6_keep 6 = .ok (.if_icmp .ge 33, 3) := by decide +kernel
theorem dX6_keep_9 : decode cX6_keep 9 = .ok (.aload_n 0, 1) := by decide +kernel
theorem dX6_keep_10 : decode cX6_keep 10 = .ok (.getfield 9, 3) := by decide +kernel
theorem dX6_keep_13 : decode cX6_keep 13 = .ok (.aload_n 0, 1) := by decide +kernel
theorem dX6_keep_14 : decode cX6_keep 14 = .ok (.getfield 18, 3) := by decide +kernel
theorem dX6_keep_17 : decode cX6_keep 17 = .ok (.iload_n 1, 1) := by decide +kernel
theorem dX6_keep_18 : decode cX6_keep 18 = .ok (.iastore, 1) := by decide +kernel
theorem dX6_keep_19 : decode cX6_keep 19 = .ok (.aload_n 0, 1) := by decide +kernel
theorem dX6_keep_20 : decode cX6_keep 20 = .ok (.getfield 15, 3) := by decide +kernel
theorem dX6_keep_23 : decode cX6_keep 23 = .ok (.aload_n 0, 1) := by decide +kernel
theorem dX6_keep_24 : decode cX6_keep 24 = .ok (.getfield 18, 3) := by decide +kernel
theorem dX6_keep_27 : decode cX6_keep 27 = .ok (.iload_n 2, 1) := by decide +kernel
theorem dX6_keep_28 : decode cX6_keep 28 = .ok (.iastore, 1) := by decide +kernel
theorem dX6_keep_29 : decode cX6_keep 29 = .ok (.aload_n 0, 1) := by decide +kernel
theorem dX6_keep_30 : decode cX6_keep 30 = .ok (.dup, 1) := by decide +kernel
theorem dX6_keep_31 : decode cX6_keep 31 = .ok (.getfield 18, 3) := by decide +kernel
theorem dX6_keep_34 : decode cX6_keep 34 = .ok (.iconst 1, 1) := by decide +kernel
theorem dX6_keep_35 : decode cX6_keep 35 = .ok (.iadd, 1) := by decide +kernel
theorem dX6_keep_36 : decode cX6_keep 36 = .ok (.putfield 18, 3) := by decide +kernel
theorem dX6_keep_39 : decode cX6_keep 39 = .ok (.return_, 1) := by decide +kernel
set_option maxRecDepth 20000 in
theorem ggX6_countCut_X6_countIn : GoodIn wsX6_countCut wsX6_countIn := goodIn_r _ [6, 7, 8, 9, 10, 11, 12, 13] rfl rfl
set_option maxRecDepth 20000 in
theorem gX6_countCut_X6_countIn : GoodIn wsX6_countCut (wsV RX6 43 RX6 yX6_countIn wsX6_countIn) := goodIn_app (goodIn_of _ (by decide +kernel)) ggX6_countCut_X6_countIn
theorem dX6_countCut_0 : decode cX6_countCut 0 = .ok (.aload_n 0, 1) := by decide +kernel
theorem dX6_countCut_1 : decode cX6_countCut 1 = .ok (.aload_n 0, 1) := by decide +kernel
theorem dX6_countCut_2 : decode cX6_countCut 2 = .ok (.getfield 9, 3) := by decide +kernel
theorem dX6_countCut_5 : decode cX6_countCut 5 = .ok (.iload_n 1, 1) := by decide +kernel
theorem dX6_countCut_6 : decode cX6_countCut 6 = .ok (.invokevirtual 43, 3) := by decide +kernel
theorem dX6_countCut_9 : decode cX6_countCut 9 = .ok (.ireturn, 1) := by decide +kernel
set_option maxRecDepth 20000 in
theorem ggX6_leftAtMost_X6_countIn : GoodIn wsX6_leftAtMost wsX6_countIn := goodIn_r _ [11, 2, 12, 13, 14, 15, 16, 17] rfl rfl
set_option maxRecDepth 20000 in
theorem gX6_leftAtMost_X6_countIn : GoodIn wsX6_leftAtMost (wsV RX6 43 RX6 yX6_countIn wsX6_countIn) := goodIn_app (goodIn_of _ (by decide +kernel)) ggX6_leftAtMost_X6_countIn
theorem dX6_leftAtMost_0 : decode cX6_leftAtMost 0 = .ok (.aload_n 0, 1) := by decide +kernel
theorem dX6_leftAtMost_1 : decode cX6_leftAtMost 1 = .ok (.aload_n 0, 1) := by decide +kernel
theorem dX6_leftAtMost_2 : decode cX6_leftAtMost 2 = .ok (.getfield 15, 3) := by decide +kernel
theorem dX6_leftAtMost_5 : decode cX6_leftAtMost 5 = .ok (.iload_n 1, 1) := by decide +kernel
theorem dX6_leftAtMost_6 : decode cX6_leftAtMost 6 = .ok (.invokevirtual 43, 3) := by decide +kernel
theorem dX6_leftAtMost_9 : decode cX6_leftAtMost 9 = .ok (.istore_n 2, 1) := by decide +kernel
theorem dX6_leftAtMost_10 : decode cX6_leftAtMost 10 = .ok (.iload_n 2, 1) := by decide +kernel
theorem dX6_leftAtMost_11 : decode cX6_leftAtMost 11 = .ok (.aload_n 0, 1) := by decide +kernel
theorem dX6_leftAtMost_12 : decode cX6_leftAtMost 12 = .ok (.getfield 18, 3) := by decide +kernel
theorem dX6_leftAtMost_15 : decode cX6_leftAtMost 15 = .ok (.iload_n 2, 1) := by decide +kernel
theorem dX6_leftAtMost_16 : decode cX6_leftAtMost 16 = .ok (.isub, 1) := by decide +kernel
theorem dX6_leftAtMost_17 : decode cX6_leftAtMost 17 = .ok (.invokestatic 47, 3) := by decide +kernel
theorem dX6_leftAtMost_20 : decode cX6_leftAtMost 20 = .ok (.ireturn, 1) := by decide +kernel
set_option maxRecDepth 20000 in
theorem ggX6_countIn_X8_has : GoodIn wsX6_countIn wsX8_has := goodIn_r _ [4] rfl rfl
set_option maxRecDepth 20000 in
theorem gX6_countIn_X8_has_n53 : GoodIn wsX6_countIn (wsX8_has) := ggX6_countIn_X8_has
theorem dX6_countIn_0 : decode cX6_countIn 0 = .ok (.iconst 0, 1) := by decide +kernel
theorem dX6_countIn_1 : decode cX6_countIn 1 = .ok (.istore_n 3, 1) := by decide +kernel
theorem dX6_countIn_2 : decode cX6_countIn 2 = .ok (.iconst 0, 1) := by decide +kernel
theorem dX6_countIn_3 : decode cX6_countIn 3 = .ok (.istore 4, 2) := by decide +kernel
theorem dX6_countIn_5 : decode cX6_countIn 5 = .ok (.iload 4, 2) := by decide +kernel
theorem dX6_countIn_7 : decode cX6_countIn 7 = .ok (.aload_n 0, 1) := by decide +kernel
theorem dX6_countIn_8 : decode cX6_countIn 8 = .ok (.getfield 18, 3) := by decide +kernel
theorem dX6_countIn_11 : decode cX6_countIn 11 = .ok (.if_icmp .ge 30, 3) := by decide +kernel
theorem dX6_countIn_14 : decode cX6_countIn 14 = .ok (.iload 4, 2) := by decide +kernel
theorem dX6_countIn_16 : decode cX6_countIn 16 = .ok (.aload_n 1, 1) := by decide +kernel
theorem dX6_countIn_17 : decode cX6_countIn 17 = .ok (.arraylength, 1) := by decide +kernel
theorem dX6_countIn_18 : decode cX6_countIn 18 = .ok (.if_icmp .ge 23, 3) := by decide +kernel
theorem dX6_countIn_21 : decode cX6_countIn 21 = .ok (.aload_n 1, 1) := by decide +kernel
theorem dX6_countIn_22 : decode cX6_countIn 22 = .ok (.iload 4, 2) := by decide +kernel
theorem dX6_countIn_24 : decode cX6_countIn 24 = .ok (.iaload, 1) := by decide +kernel
theorem dX6_countIn_25 : decode cX6_countIn 25 = .ok (.iload_n 2, 1) := by decide +kernel
theorem dX6_countIn_26 : decode cX6_countIn 26 = .ok (.invokestatic 53, 3) := by decide +kernel
theorem dX6_countIn_29 : decode cX6_countIn 29 = .ok (.ifCond .eq 6, 3) := by decide +kernel
theorem dX6_countIn_32 : decode cX6_countIn 32 = .ok (.iinc 3 1, 3) := by decide +kernel
theorem dX6_countIn_35 : decode cX6_countIn 35 = .ok (.iinc 4 1, 3) := by decide +kernel
theorem dX6_countIn_38 : decode cX6_countIn 38 = .ok (.goto (-33), 3) := by decide +kernel
theorem dX6_countIn_41 : decode cX6_countIn 41 = .ok (.iload_n 3, 1) := by decide +kernel
theorem dX6_countIn_42 : decode cX6_countIn 42 = .ok (.ireturn, 1) := by decide +kernel
theorem dX7_tell_0 : decode cX7_tell 0 = .ok (.aload_n 0, 1) := by decide +kernel
theorem dX7_tell_1 : decode cX7_tell 1 = .ok (.getfield 25, 3) := by decide +kernel
theorem dX7_tell_4 : decode cX7_tell 4 = .ok (.bipush 30, 2) := by decide +kernel
theorem dX7_tell_6 : decode cX7_tell 6 = .ok (.if_icmp .lt 5, 3) := by decide +kernel
theorem dX7_tell_9 : decode cX7_tell 9 = .ok (.iconst (-1), 1) := by decide +kernel
theorem dX7_tell_10 : decode cX7_tell 10 = .ok (.ireturn, 1) := by decide +kernel
theorem dX7_tell_11 : decode cX7_tell 11 = .ok (.aload_n 0, 1) := by decide +kernel
theorem dX7_tell_12 : decode cX7_tell 12 = .ok (.getfield 9, 3) := by decide +kernel
theorem dX7_tell_15 : decode cX7_tell 15 = .ok (.aload_n 0, 1) := by decide +kernel
theorem dX7_tell_16 : decode cX7_tell 16 = .ok (.getfield 25, 3) := by decide +kernel
theorem dX7_tell_19 : decode cX7_tell 19 = .ok (.iload_n 1, 1) := by decide +kernel
theorem dX7_tell_20 : decode cX7_tell 20 = .ok (.iastore, 1) := by decide +kernel
theorem dX7_tell_21 : decode cX7_tell 21 = .ok (.aload_n 0, 1) := by decide +kernel
theorem dX7_tell_22 : decode cX7_tell 22 = .ok (.getfield 15, 3) := by decide +kernel
theorem dX7_tell_25 : decode cX7_tell 25 = .ok (.aload_n 0, 1) := by decide +kernel
theorem dX7_tell_26 : decode cX7_tell 26 = .ok (.getfield 25, 3) := by decide +kernel
theorem dX7_tell_29 : decode cX7_tell 29 = .ok (.iload_n 2, 1) := by decide +kernel
theorem dX7_tell_30 : decode cX7_tell 30 = .ok (.bastore, 1) := by decide +kernel
theorem dX7_tell_31 : decode cX7_tell 31 = .ok (.aload_n 0, 1) := by decide +kernel
theorem dX7_tell_32 : decode cX7_tell 32 = .ok (.getfield 19, 3) := by decide +kernel
theorem dX7_tell_35 : decode cX7_tell 35 = .ok (.aload_n 0, 1) := by decide +kernel
theorem dX7_tell_36 : decode cX7_tell 36 = .ok (.getfield 25, 3) := by decide +kernel
theorem dX7_tell_39 : decode cX7_tell 39 = .ok (.iload_n 3, 1) := by decide +kernel
theorem dX7_tell_40 : decode cX7_tell 40 = .ok (.iastore, 1) := by decide +kernel
theorem dX7_tell_41 : decode cX7_tell 41 = .ok (.aload_n 0, 1) := by decide +kernel
theorem dX7_tell_42 : decode cX7_tell 42 = .ok (.getfield 22, 3) := by decide +kernel
theorem dX7_tell_45 : decode cX7_tell 45 = .ok (.aload_n 0, 1) := by decide +kernel
theorem dX7_tell_46 : decode cX7_tell 46 = .ok (.getfield 25, 3) := by decide +kernel
theorem dX7_tell_49 : decode cX7_tell 49 = .ok (.iconst (-1), 1) := by decide +kernel
theorem dX7_tell_50 : decode cX7_tell 50 = .ok (.iastore, 1) := by decide +kernel
theorem dX7_tell_51 : decode cX7_tell 51 = .ok (.aload_n 0, 1) := by decide +kernel
theorem dX7_tell_52 : decode cX7_tell 52 = .ok (.dup, 1) := by decide +kernel
theorem dX7_tell_53 : decode cX7_tell 53 = .ok (.getfield 25, 3) := by decide +kernel
theorem dX7_tell_56 : decode cX7_tell 56 = .ok (.iconst 1, 1) := by decide +kernel
theorem dX7_tell_57 : decode cX7_tell 57 = .ok (.iadd, 1) := by decide +kernel
theorem dX7_tell_58 : decode cX7_tell 58 = .ok (.putfield 25, 3) := by decide +kernel
theorem dX7_tell_61 : decode cX7_tell 61 = .ok (.aload_n 0, 1) := by decide +kernel
theorem dX7_tell_62 : decode cX7_tell 62 = .ok (.getfield 25, 3) := by decide +kernel
theorem dX7_tell_65 : decode cX7_tell 65 = .ok (.iconst 1, 1) := by decide +kernel
theorem dX7_tell_66 : decode cX7_tell 66 = .ok (.isub, 1) := by decide +kernel
theorem dX7_tell_67 : decode cX7_tell 67 = .ok (.ireturn, 1) := by decide +kernel
theorem dX7_takeBack_0 : decode cX7_takeBack 0 = .ok (.iload_n 1, 1) := by decide +kernel
theorem dX7_takeBack_1 : decode cX7_takeBack 1 = .ok (.ifCond .lt 21, 3) := by decide +kernel
theorem dX7_takeBack_4 : decode cX7_takeBack 4 = .ok (.iload_n 1, 1) := by decide +kernel
theorem dX7_takeBack_5 : decode cX7_takeBack 5 = .ok (.aload_n 0, 1) := by decide +kernel
theorem dX7_takeBack_6 : decode cX7_takeBack 6 = .ok (.getfield 25, 3) := by decide +kernel
theorem dX7_takeBack_9 : decode cX7_takeBack 9 = .ok (.if_icmp .ge 13, 3) := by decide +kernel
theorem dX7_takeBack_12 : decode cX7_takeBack 12 = .ok (.aload_n 0, 1) := by decide +kernel
theorem dX7_takeBack_13 : decode cX7_takeBack 13 = .ok (.getfield 22, 3) := by decide +kernel
theorem dX7_takeBack_16 : decode cX7_takeBack 16 = .ok (.iload_n 1, 1) := by decide +kernel
theorem dX7_takeBack_17 : decode cX7_takeBack 17 = .ok (.iaload, 1) := by decide +kernel
theorem dX7_takeBack_18 : decode cX7_takeBack 18 = .ok (.iconst (-1), 1) := by decide +kernel
theorem dX7_takeBack_19 : decode cX7_takeBack 19 = .ok (.if_icmp .eq 5, 3) := by decide +kernel
theorem dX7_takeBack_22 : decode cX7_takeBack 22 = .ok (.iconst 0, 1) := by decide +kernel
theorem dX7_takeBack_23 : decode cX7_takeBack 23 = .ok (.ireturn, 1) := by decide +kernel
theorem dX7_takeBack_24 : decode cX7_takeBack 24 = .ok (.aload_n 0, 1) := by decide +kernel
theorem dX7_takeBack_25 : decode cX7_takeBack 25 = .ok (.getfield 22, 3) := by decide +kernel
theorem dX7_takeBack_28 : decode cX7_takeBack 28 = .ok (.iload_n 1, 1) := by decide +kernel
theorem dX7_takeBack_29 : decode cX7_takeBack 29 = .ok (.iload_n 2, 1) := by decide +kernel
theorem dX7_takeBack_30 : decode cX7_takeBack 30 = .ok (.iastore, 1) := by decide +kernel
theorem dX7_takeBack_31 : decode cX7_takeBack 31 = .ok (.iconst 1, 1) := by decide +kernel
theorem dX7_takeBack_32 : decode cX7_takeBack 32 = .ok (.ireturn, 1) := by decide +kernel
set_option maxRecDepth 20000 in
theorem ggX7_fits_X7_counts : GoodIn wsX7_fits wsX7_counts := goodIn_r _ [8, 9, 10, 14, 15, 16, 17, 18] rfl rfl
set_option maxRecDepth 20000 in
theorem gX7_fits_X7_counts : GoodIn wsX7_fits (wsV RX7 29 RX7 yX7_counts wsX7_counts) := goodIn_app (goodIn_of _ (by decide +kernel)) ggX7_fits_X7_counts
set_option maxRecDepth 20000 in
theorem ggX7_fits_X8_has : GoodIn wsX7_fits wsX8_has := goodIn_r _ [13] rfl rfl
set_option maxRecDepth 20000 in
theorem gX7_fits_X8_has_n33 : GoodIn wsX7_fits (wsX8_has) := ggX7_fits_X8_has
theorem dX7_fits_0 : decode cX7_fits 0 = .ok (.iconst 0, 1) := by decide +kernel
theorem dX7_fits_1 : decode cX7_fits 1 = .ok (.istore_n 3, 1) := by decide +kernel
theorem dX7_fits_2 : decode cX7_fits 2 = .ok (.iload_n 3, 1) := by decide +kernel
theorem dX7_fits_3 : decode cX7_fits 3 = .ok (.aload_n 0, 1) := by decide +kernel
theorem dX7_fits_4 : decode cX7_fits 4 = .ok (.getfield 25, 3) := by decide +kernel
theorem dX7_fits_7 : decode cX7_fits 7 = .ok (.if_icmp .ge 39, 3) := by decide +kernel
theorem dX7_fits_10 : decode cX7_fits 10 = .ok (.aload_n 0, 1) := by decide +kernel
theorem dX7_fits_11 : decode cX7_fits 11 = .ok (.iload_n 3, 1) := by decide +kernel
theorem dX7_fits_12 : decode cX7_fits 12 = .ok (.iload_n 2, 1) := by decide +kernel
theorem dX7_fits_13 : decode cX7_fits 13 = .ok (.invokevirtual 29, 3) := by decide +kernel
theorem dX7_fits_16 : decode cX7_fits 16 = .ok (.ifCond .eq 24, 3) := by decide +kernel
theorem dX7_fits_19 : decode cX7_fits 19 = .ok (.iload_n 1, 1) := by decide +kernel
theorem dX7_fits_20 : decode cX7_fits 20 = .ok (.aload_n 0, 1) := by decide +kernel
theorem dX7_fits_21 : decode cX7_fits 21 = .ok (.getfield 9, 3) := by decide +kernel
theorem dX7_fits_24 : decode cX7_fits 24 = .ok (.iload_n 3, 1) := by decide +kernel
theorem dX7_fits_25 : decode cX7_fits 25 = .ok (.iaload, 1) := by decide +kernel
theorem dX7_fits_26 : decode cX7_fits 26 = .ok (.invokestatic 33, 3) := by decide +kernel
theorem dX7_fits_29 : decode cX7_fits 29 = .ok (.aload_n 0, 1) := by decide +kernel
theorem dX7_fits_30 : decode cX7_fits 30 = .ok (.getfield 15, 3) := by decide +kernel
theorem dX7_fits_33 : decode cX7_fits 33 = .ok (.iload_n 3, 1) := by decide +kernel
theorem dX7_fits_34 : decode cX7_fits 34 = .ok (.baload, 1) := by decide +kernel
theorem dX7_fits_35 : decode cX7_fits 35 = .ok (.if_icmp .eq 5, 3) := by decide +kernel
theorem dX7_fits_38 : decode cX7_fits 38 = .ok (.iconst 0, 1) := by decide +kernel
theorem dX7_fits_39 : decode cX7_fits 39 = .ok (.ireturn, 1) := by decide +kernel
theorem dX7_fits_40 : decode cX7_fits 40 = .ok (.iinc 3 1, 3) := by decide +kernel
theorem dX7_fits_43 : decode cX7_fits 43 = .ok (.goto (-41), 3) := by decide +kernel
theorem dX7_fits_46 : decode cX7_fits 46 = .ok (.iconst 1, 1) := by decide +kernel
theorem dX7_fits_47 : decode cX7_fits 47 = .ok (.ireturn, 1) := by decide +kernel
theorem dX7_counts_0 : decode cX7_counts 0 = .ok (.aload_n 0, 1) := by decide +kernel
theorem dX7_counts_1 : decode cX7_counts 1 = .ok (.getfield 19, 3) := by decide +kernel
theorem dX7_counts_4 : decode cX7_counts 4 = .ok (.iload_n 1, 1) := by decide +kernel
theorem dX7_counts_5 : decode cX7_counts 5 = .ok (.iaload, 1) := by decide +kernel
theorem dX7_counts_6 : decode cX7_counts 6 = .ok (.iload_n 2, 1) := by decide +kernel
theorem dX7_counts_7 : decode cX7_counts 7 = .ok (.if_icmp .gt 27, 3) := by decide +kernel
theorem dX7_counts_10 : decode cX7_counts 10 = .ok (.aload_n 0, 1) := by decide +kernel
theorem dX7_counts_11 : decode cX7_counts 11 = .ok (.getfield 22, 3) := by decide +kernel
theorem dX7_counts_14 : decode cX7_counts 14 = .ok (.iload_n 1, 1) := by decide +kernel
theorem dX7_counts_15 : decode cX7_counts 15 = .ok (.iaload, 1) := by decide +kernel
theorem dX7_counts_16 : decode cX7_counts 16 = .ok (.iconst (-1), 1) := by decide +kernel
theorem dX7_counts_17 : decode cX7_counts 17 = .ok (.if_icmp .eq 13, 3) := by decide +kernel
theorem dX7_counts_20 : decode cX7_counts 20 = .ok (.aload_n 0, 1) := by decide +kernel
theorem dX7_counts_21 : decode cX7_counts 21 = .ok (.getfield 22, 3) := by decide +kernel
theorem dX7_counts_24 : decode cX7_counts 24 = .ok (.iload_n 1, 1) := by decide +kernel
theorem dX7_counts_25 : decode cX7_counts 25 = .ok (.iaload, 1) := by decide +kernel
theorem dX7_counts_26 : decode cX7_counts 26 = .ok (.iload_n 2, 1) := by decide +kernel
theorem dX7_counts_27 : decode cX7_counts 27 = .ok (.if_icmp .le 7, 3) := by decide +kernel
theorem dX7_counts_30 : decode cX7_counts 30 = .ok (.iconst 1, 1) := by decide +kernel
theorem dX7_counts_31 : decode cX7_counts 31 = .ok (.goto 4, 3) := by decide +kernel
theorem dX7_counts_34 : decode cX7_counts 34 = .ok (.iconst 0, 1) := by decide +kernel
theorem dX7_counts_35 : decode cX7_counts 35 = .ok (.ireturn, 1) := by decide +kernel
set_option maxRecDepth 20000 in
theorem ggX8_image_X8_now : GoodIn wsX8_image wsX8_now := goodIn_r _ [8, 9, 10, 11, 12, 13, 14, 15, 16, 31, 32, 33, 34, 35, 36, 37, 38, 39, 40, 41, 42, 43, 49, 50, 51, 52] rfl rfl
set_option maxRecDepth 20000 in
theorem gX8_image_X8_now : GoodIn wsX8_image (wsV RX8 88 RX8 yX8_now wsX8_now) := goodIn_app (goodIn_of _ (by decide +kernel)) ggX8_image_X8_now
set_option maxRecDepth 20000 in
theorem ggX8_image_X4_copy : GoodIn wsX8_image wsX4_copy := goodIn_r _ [21, 22, 23, 24, 25, 26, 27, 28, 29, 30, 44, 45, 46, 47, 48] rfl rfl
set_option maxRecDepth 20000 in
theorem gX8_image_X4_copy : GoodIn wsX8_image (wsV RX8 216 RX4 yX4_copy wsX4_copy) := goodIn_app (goodIn_of _ (by decide +kernel)) ggX8_image_X4_copy
theorem dX8_image_0 : decode cX8_image 0 = .ok (.iload_n 1, 1) := by decide +kernel
theorem dX8_image_1 : decode cX8_image 1 = .ok (.ifCond .lt 8, 3) := by decide +kernel
theorem dX8_image_4 : decode cX8_image 4 = .ok (.iload_n 1, 1) := by decide +kernel
theorem dX8_image_5 : decode cX8_image 5 = .ok (.iconst 3, 1) := by decide +kernel
theorem dX8_image_6 : decode cX8_image 6 = .ok (.if_icmp .lt 5, 3) := by decide +kernel
theorem dX8_image_9 : decode cX8_image 9 = .ok (.iconst (-1), 1) := by decide +kernel
theorem dX8_image_10 : decode cX8_image 10 = .ok (.ireturn, 1) := by decide +kernel
theorem dX8_image_11 : decode cX8_image 11 = .ok (.aload_n 0, 1) := by decide +kernel
theorem dX8_image_12 : decode cX8_image 12 = .ok (.getfield 37, 3) := by decide +kernel
theorem dX8_image_15 : decode cX8_image 15 = .ok (.iload_n 1, 1) := by decide +kernel
theorem dX8_image_16 : decode cX8_image 16 = .ok (.aaload, 1) := by decide +kernel
theorem dX8_image_17 : decode cX8_image 17 = .ok (.aload_n 0, 1) := by decide +kernel
theorem dX8_image_18 : decode cX8_image 18 = .ok (.invokevirtual 88, 3) := by decide +kernel
theorem dX8_image_21 : decode cX8_image 21 = .ok (.invokevirtual 216, 3) := by decide +kernel
theorem dX8_image_24 : decode cX8_image 24 = .ok (.aload_n 0, 1) := by decide +kernel
theorem dX8_image_25 : decode cX8_image 25 = .ok (.dup, 1) := by decide +kernel
theorem dX8_image_26 : decode cX8_image 26 = .ok (.getfield 96, 3) := by decide +kernel
theorem dX8_image_29 : decode cX8_image 29 = .ok (.iconst 1, 1) := by decide +kernel
theorem dX8_image_30 : decode cX8_image 30 = .ok (.iload_n 1, 1) := by decide +kernel
theorem dX8_image_31 : decode cX8_image 31 = .ok (.ishl, 1) := by decide +kernel
theorem dX8_image_32 : decode cX8_image 32 = .ok (.ior, 1) := by decide +kernel
theorem dX8_image_33 : decode cX8_image 33 = .ok (.putfield 96, 3) := by decide +kernel
theorem dX8_image_36 : decode cX8_image 36 = .ok (.aload_n 0, 1) := by decide +kernel
theorem dX8_image_37 : decode cX8_image 37 = .ok (.invokevirtual 88, 3) := by decide +kernel
theorem dX8_image_40 : decode cX8_image 40 = .ok (.getfield 160, 3) := by decide +kernel
theorem dX8_image_43 : decode cX8_image 43 = .ok (.ireturn, 1) := by decide +kernel
set_option maxRecDepth 20000 in
theorem ggX8_depth_X8_standingNow : GoodIn wsX8_depth wsX8_standingNow := goodIn_r _ [13, 3, 14, 15, 16, 17, 12, 18, 1, 19, 20, 21, 22, 23, 24, 25, 26, 27, 28, 29, 30, 31, 32, 33, 34, 35, 36, 37, 38, 39, 40, 41, 42, 43, 44, 45, 46, 47, 48, 49, 50, 51, 52, 53, 54, 55, 56, 57, 58, 59, 60, 61, 62, 63, 64, 65, 66, 67, 68, 69, 70, 71, 72, 73, 74, 75, 7, 76, 77, 6, 8, 78, 79, 80, 81, 82, 83, 84, 85, 86, 87, 88, 89, 90, 91, 92, 93, 94, 95, 96, 97, 98, 99, 100, 101, 102, 103, 104, 105, 106, 107, 108, 109, 110, 111, 112, 113, 114, 115, 116, 117, 118, 119, 120, 121, 122, 123, 124, 125, 126, 127, 128, 129, 130, 131, 132, 133, 134, 136, 137, 138, 139, 140, 141, 142, 143, 144, 145, 146, 147, 148, 171, 172, 173, 174, 175, 176, 177, 178, 179, 161, 162, 163, 164, 165, 166, 167, 168, 169, 170, 149, 150, 151, 152, 153, 154, 155, 156, 157, 158, 159, 160, 180, 181, 182, 183, 184, 185] rfl rfl
set_option maxRecDepth 20000 in
theorem gX8_depth_X8_standingNow : GoodIn wsX8_depth (wsV RX8 224 RX8 yX8_standingNow wsX8_standingNow) := goodIn_app (goodIn_of _ (by decide +kernel)) ggX8_depth_X8_standingNow
set_option maxRecDepth 20000 in
theorem ggX8_depth_X8_has : GoodIn wsX8_depth wsX8_has := goodIn_r _ [62] rfl rfl
set_option maxRecDepth 20000 in
theorem gX8_depth_X8_has : GoodIn wsX8_depth (va_wsS RX8 220 yX8_has wsX8_has) := goodIn_app (goodIn_of _ (by decide +kernel)) ggX8_depth_X8_has
theorem dX8_depth_0 : decode cX8_depth 0 = .ok (.aload_n 0, 1) := by decide +kernel
theorem dX8_depth_1 : decode cX8_depth 1 = .ok (.invokevirtual 224, 3) := by decide +kernel
theorem dX8_depth_4 : decode cX8_depth 4 = .ok (.istore_n 1, 1) := by decide +kernel
theorem dX8_depth_5 : decode cX8_depth 5 = .ok (.iconst (-1), 1) := by decide +kernel
theorem dX8_depth_6 : decode cX8_depth 6 = .ok (.istore_n 2, 1) := by decide +kernel
theorem dX8_depth_7 : decode cX8_depth 7 = .ok (.iconst 0, 1) := by decide +kernel
theorem dX8_depth_8 : decode cX8_depth 8 = .ok (.istore_n 3, 1) := by decide +kernel
theorem dX8_depth_9 : decode cX8_depth 9 = .ok (.iload_n 3, 1) := by decide +kernel
theorem dX8_depth_10 : decode cX8_depth 10 = .ok (.aload_n 0, 1) := by decide +kernel
theorem dX8_depth_11 : decode cX8_depth 11 = .ok (.getfield 19, 3) := by decide +kernel
theorem dX8_depth_14 : decode cX8_depth 14 = .ok (.getfield 105, 3) := by decide +kernel
theorem dX8_depth_17 : decode cX8_depth 17 = .ok (.if_icmp .ge 31, 3) := by decide +kernel
theorem dX8_depth_20 : decode cX8_depth 20 = .ok (.iload_n 1, 1) := by decide +kernel
theorem dX8_depth_21 : decode cX8_depth 21 = .ok (.iload_n 3, 1) := by decide +kernel
theorem dX8_depth_22 : decode cX8_depth 22 = .ok (.invokestatic 220, 3) := by decide +kernel
theorem dX8_depth_25 : decode cX8_depth 25 = .ok (.ifCond .eq 17, 3) := by decide +kernel
theorem dX8_depth_28 : decode cX8_depth 28 = .ok (.iload_n 2, 1) := by decide +kernel
theorem dX8_depth_29 : decode cX8_depth 29 = .ok (.aload_n 0, 1) := by decide +kernel
theorem dX8_depth_30 : decode cX8_depth 30 = .ok (.getfield 44, 3) := by decide +kernel
theorem dX8_depth_33 : decode cX8_depth 33 = .ok (.getfield 287, 3) := by decide +kernel
theorem dX8_depth_36 : decode cX8_depth 36 = .ok (.iload_n 3, 1) := by decide +kernel
theorem dX8_depth_37 : decode cX8_depth 37 = .ok (.iaload, 1) := by decide +kernel
theorem dX8_depth_38 : decode cX8_depth 38 = .ok (.invokestatic 282, 3) := by decide +kernel
theorem dX8_depth_41 : decode cX8_depth 41 = .ok (.istore_n 2, 1) := by decide +kernel
theorem dX8_depth_42 : decode cX8_depth 42 = .ok (.iinc 3 1, 3) := by decide +kernel
theorem dX8_depth_45 : decode cX8_depth 45 = .ok (.goto (-36), 3) := by decide +kernel
theorem dX8_depth_48 : decode cX8_depth 48 = .ok (.iload_n 2, 1) := by decide +kernel
theorem dX8_depth_49 : decode cX8_depth 49 = .ok (.ireturn, 1) := by decide +kernel
set_option maxRecDepth 20000 in
theorem ggX8_weakest_X8_look : GoodIn wsX8_weakest wsX8_look := goodIn_r _ [10, 1, 3, 11, 12, 13, 9, 14, 15, 16, 17, 18, 19, 20, 21, 22, 23, 24, 25, 26, 27, 28, 29, 30, 31, 32, 33, 34, 35, 36, 37, 38, 39, 40, 41, 42, 111, 112, 113, 114, 115, 116, 117, 118, 119, 120, 121, 122, 123, 151, 152, 153, 154, 141, 142, 143, 144, 145, 146, 147, 148, 149, 150, 129, 130, 131, 132, 133, 134, 135, 136, 137, 138, 139, 140, 124, 125, 126, 127, 128] rfl rfl
set_option maxRecDepth 20000 in
theorem gX8_weakest_X8_look : GoodIn wsX8_weakest (wsV RX8 148 RX8 yX8_look wsX8_look) := goodIn_app (goodIn_of _ (by decide +kernel)) ggX8_weakest_X8_look
set_option maxRecDepth 20000 in
theorem ggX8_weakest_X8_now : GoodIn wsX8_weakest wsX8_now := goodIn_r _ [14, 15, 16, 17, 18, 19, 20, 21, 22, 111, 112, 113, 114, 115, 116, 117, 118, 119, 120, 121, 122, 123, 151, 152, 153, 154] rfl rfl
set_option maxRecDepth 20000 in
theorem gX8_weakest_X8_now : GoodIn wsX8_weakest (wsV RX8 88 RX8 yX8_now wsX8_now) := goodIn_app (goodIn_of _ (by decide +kernel)) ggX8_weakest_X8_now
set_option maxRecDepth 20000 in
theorem ggX8_weakest_X2_weigh : GoodIn wsX8_weakest wsX2_weigh := goodIn_r _ [46, 28, 47, 35, 48, 49, 9, 50, 51, 52, 53, 26, 54, 55, 56, 57, 58, 59, 60, 61, 42, 41, 33, 62, 63, 64, 65, 66, 67, 68, 69, 70, 71, 72, 73, 74, 75, 76, 77, 78, 79, 80, 81, 82, 83, 84, 85, 86, 87, 88, 89, 90, 91, 92, 93, 94, 95, 96, 97, 98, 99, 141, 142, 143, 144, 145, 146, 147, 148, 149, 150, 129, 130, 131, 132, 133, 134, 135, 136, 137, 138, 139, 140, 155, 156, 157, 158, 159, 160] rfl rfl
set_option maxRecDepth 20000 in
theorem gX8_weakest_X2_weigh : GoodIn wsX8_weakest (wsV RX8 151 RX2 yX2_weigh wsX2_weigh) := goodIn_app (goodIn_of _ (by decide +kernel)) ggX8_weakest_X2_weigh
set_option maxRecDepth 20000 in
theorem ggX8_weakest_X8_isTied : GoodIn wsX8_weakest wsX8_isTied := goodIn_r _ [103, 3, 2, 104, 105, 106, 107, 108, 109, 11, 12, 13, 9, 14, 15, 16, 17, 18, 19, 20, 21, 22, 110, 49, 50, 111, 112, 113, 114, 115, 116, 117, 118, 119, 120, 121, 122, 123, 124, 125, 126, 127, 128, 129, 130, 131, 132, 133, 134, 135, 136, 137, 138, 139, 140, 151, 152, 153, 154] rfl rfl
set_option maxRecDepth 20000 in
theorem gX8_weakest_X8_isTied : GoodIn wsX8_weakest (wsV RX8 190 RX8 yX8_isTied wsX8_isTied) := goodIn_app (goodIn_of _ (by decide +kernel)) ggX8_weakest_X8_isTied
theorem dX8_weakest_0 : decode cX8_weakest 0 = .ok (.aload_n 0, 1) := by decide +kernel
theorem dX8_weakest_1 : decode cX8_weakest 1 = .ok (.invokevirtual 148, 3) := by decide +kernel
theorem dX8_weakest_4 : decode cX8_weakest 4 = .ok (.aload_n 0, 1) := by decide +kernel
theorem dX8_weakest_5 : decode cX8_weakest 5 = .ok (.getfield 44, 3) := by decide +kernel
theorem dX8_weakest_8 : decode cX8_weakest 8 = .ok (.aload_n 0, 1) := by decide +kernel
theorem dX8_weakest_9 : decode cX8_weakest 9 = .ok (.invokevirtual 88, 3) := by decide +kernel
theorem dX8_weakest_12 : decode cX8_weakest 12 = .ok (.getfield 145, 3) := by decide +kernel
theorem dX8_weakest_15 : decode cX8_weakest 15 = .ok (.invokevirtual 151, 3) := by decide +kernel
theorem dX8_weakest_18 : decode cX8_weakest 18 = .ok (.iconst (-1), 1) := by decide +kernel
theorem dX8_weakest_19 : decode cX8_weakest 19 = .ok (.istore_n 1, 1) := by decide +kernel
theorem dX8_weakest_20 : decode cX8_weakest 20 = .ok (.sipush 1000, 3) := by decide +kernel
theorem dX8_weakest_23 : decode cX8_weakest 23 = .ok (.istore_n 2, 1) := by decide +kernel
theorem dX8_weakest_24 : decode cX8_weakest 24 = .ok (.iconst 0, 1) := by decide +kernel
theorem dX8_weakest_25 : decode cX8_weakest 25 = .ok (.istore_n 3, 1) := by decide +kernel
theorem dX8_weakest_26 : decode cX8_weakest 26 = .ok (.iload_n 3, 1) := by decide +kernel
theorem dX8_weakest_27 : decode cX8_weakest 27 = .ok (.aload_n 0, 1) := by decide +kernel
theorem dX8_weakest_28 : decode cX8_weakest 28 = .ok (.getfield 19, 3) := by decide +kernel
theorem dX8_weakest_31 : decode cX8_weakest 31 = .ok (.getfield 157, 3) := by decide +kernel
theorem dX8_weakest_34 : decode cX8_weakest 34 = .ok (.if_icmp .ge 42, 3) := by decide +kernel
theorem dX8_weakest_37 : decode cX8_weakest 37 = .ok (.aload_n 0, 1) := by decide +kernel
theorem dX8_weakest_38 : decode cX8_weakest 38 = .ok (.iload_n 3, 1) := by decide +kernel
theorem dX8_weakest_39 : decode cX8_weakest 39 = .ok (.invokevirtual 190, 3) := by decide +kernel
theorem dX8_weakest_42 : decode cX8_weakest 42 = .ok (.ifCond .eq 28, 3) := by decide +kernel
theorem dX8_weakest_45 : decode cX8_weakest 45 = .ok (.aload_n 0, 1) := by decide +kernel
theorem dX8_weakest_46 : decode cX8_weakest 46 = .ok (.getfield 44, 3) := by decide +kernel
theorem dX8_weakest_49 : decode cX8_weakest 49 = .ok (.getfield 154, 3) := by decide +kernel
theorem dX8_weakest_52 : decode cX8_weakest 52 = .ok (.iload_n 3, 1) := by decide +kernel
theorem dX8_weakest_53 : decode cX8_weakest 53 = .ok (.iaload, 1) := by decide +kernel
theorem dX8_weakest_54 : decode cX8_weakest 54 = .ok (.iload_n 2, 1) := by decide +kernel
theorem dX8_weakest_55 : decode cX8_weakest 55 = .ok (.if_icmp .ge 15, 3) := by decide +kernel
theorem dX8_weakest_58 : decode cX8_weakest 58 = .ok (.iload_n 3, 1) := by decide +kernel
theorem dX8_weakest_59 : decode cX8_weakest 59 = .ok (.istore_n 1, 1) := by decide +kernel
theorem dX8_weakest_60 : decode cX8_weakest 60 = .ok (.aload_n 0, 1) := by decide +kernel
theorem dX8_weakest_61 : decode cX8_weakest 61 = .ok (.getfield 44, 3) := by decide +kernel
theorem dX8_weakest_64 : decode cX8_weakest 64 = .ok (.getfield 154, 3) := by decide +kernel
theorem dX8_weakest_67 : decode cX8_weakest 67 = .ok (.iload_n 3, 1) := by decide +kernel
theorem dX8_weakest_68 : decode cX8_weakest 68 = .ok (.iaload, 1) := by decide +kernel
theorem dX8_weakest_69 : decode cX8_weakest 69 = .ok (.istore_n 2, 1) := by decide +kernel
theorem dX8_weakest_70 : decode cX8_weakest 70 = .ok (.iinc 3 1, 3) := by decide +kernel
theorem dX8_weakest_73 : decode cX8_weakest 73 = .ok (.goto (-47), 3) := by decide +kernel
theorem dX8_weakest_76 : decode cX8_weakest 76 = .ok (.iload_n 1, 1) := by decide +kernel
theorem dX8_weakest_77 : decode cX8_weakest 77 = .ok (.ireturn, 1) := by decide +kernel
theorem dX8_lies_0 : decode cX8_lies 0 = .ok (.iload_n 1, 1) := by decide +kernel
theorem dX8_lies_1 : decode cX8_lies 1 = .ok (.ifCond .lt 20, 3) := by decide +kernel
theorem dX8_lies_4 : decode cX8_lies 4 = .ok (.iload_n 1, 1) := by decide +kernel
theorem dX8_lies_5 : decode cX8_lies 5 = .ok (.aload_n 0, 1) := by decide +kernel
theorem dX8_lies_6 : decode cX8_lies 6 = .ok (.getfield 102, 3) := by decide +kernel
theorem dX8_lies_9 : decode cX8_lies 9 = .ok (.if_icmp .ge 12, 3) := by decide +kernel
theorem dX8_lies_12 : decode cX8_lies 12 = .ok (.aload_n 0, 1) := by decide +kernel
theorem dX8_lies_13 : decode cX8_lies 13 = .ok (.getfield 52, 3) := by decide +kernel
theorem dX8_lies_16 : decode cX8_lies 16 = .ok (.iload_n 1, 1) := by decide +kernel
theorem dX8_lies_17 : decode cX8_lies 17 = .ok (.iaload, 1) := by decide +kernel
theorem dX8_lies_18 : decode cX8_lies 18 = .ok (.goto 4, 3) := by decide +kernel
theorem dX8_lies_21 : decode cX8_lies 21 = .ok (.iconst (-1), 1) := by decide +kernel
theorem dX8_lies_22 : decode cX8_lies 22 = .ok (.ireturn, 1) := by decide +kernel
set_option maxRecDepth 20000 in
theorem ggX8_odds_X8_isZeroOrOne : GoodIn wsX8_odds wsX8_isZeroOrOne := goodIn_r _ [6] rfl rfl
set_option maxRecDepth 20000 in
theorem gX8_odds_X8_isZeroOrOne : GoodIn wsX8_odds (va_wsS RX8 234 yX8_isZeroOrOne wsX8_isZeroOrOne) := goodIn_app (goodIn_of _ (by decide +kernel)) ggX8_odds_X8_isZeroOrOne
set_option maxRecDepth 20000 in
theorem ggX8_odds_X8_commonDivisor : GoodIn wsX8_odds wsX8_commonDivisor := goodIn_r _ [9, 10, 11, 12, 13] rfl rfl
set_option maxRecDepth 20000 in
theorem gX8_odds_X8_commonDivisor : GoodIn wsX8_odds (va_wsS RX8 330 yX8_commonDivisor wsX8_commonDivisor) := goodIn_app (goodIn_of _ (by decide +kernel)) ggX8_odds_X8_commonDivisor
theorem dX8_odds_0 : decode cX8_odds 0 = .ok (.iload_n 1, 1) := by decide +kernel
theorem dX8_odds_1 : decode cX8_odds 1 = .ok (.ifCond .lt 15, 3) := by decide +kernel
theorem dX8_odds_4 : decode cX8_odds 4 = .ok (.iload_n 1, 1) := by decide +kernel
theorem dX8_odds_5 : decode cX8_odds 5 = .ok (.iconst 4, 1) := by decide +kernel
theorem dX8_odds_6 : decode cX8_odds 6 = .ok (.if_icmp .gt 10, 3) := by decide +kernel
theorem dX8_odds_9 : decode cX8_odds 9 = .ok (.iload_n 2, 1) := by decide +kernel
theorem dX8_odds_10 : decode cX8_odds 10 = .ok (.invokestatic 234, 3) := by decide +kernel
theorem dX8_odds_13 : decode cX8_odds 13 = .ok (.ifCond .ne 5, 3) := by decide +kernel
theorem dX8_odds_16 : decode cX8_odds 16 = .ok (.iconst (-1), 1) := by decide +kernel
theorem dX8_odds_17 : decode cX8_odds 17 = .ok (.ireturn, 1) := by decide +kernel
theorem dX8_odds_18 : decode cX8_odds 18 = .ok (.iconst 1, 1) := by decide +kernel
theorem dX8_odds_19 : decode cX8_odds 19 = .ok (.istore_n 3, 1) := by decide +kernel
theorem dX8_odds_20 : decode cX8_odds 20 = .ok (.iconst 1, 1) := by decide +kernel
theorem dX8_odds_21 : decode cX8_odds 21 = .ok (.istore 4, 2) := by decide +kernel
theorem dX8_odds_23 : decode cX8_odds 23 = .ok (.iconst 0, 1) := by decide +kernel
theorem dX8_odds_24 : decode cX8_odds 24 = .ok (.istore 5, 2) := by decide +kernel
theorem dX8_odds_26 : decode cX8_odds 26 = .ok (.iload 5, 2) := by decide +kernel
theorem dX8_odds_28 : decode cX8_odds 28 = .ok (.iload_n 1, 1) := by decide +kernel
theorem dX8_odds_29 : decode cX8_odds 29 = .ok (.if_icmp .ge 29, 3) := by decide +kernel
theorem dX8_odds_32 : decode cX8_odds 32 = .ok (.iload_n 3, 1) := by decide +kernel
theorem dX8_odds_33 : decode cX8_odds 33 = .ok (.bipush 100, 2) := by decide +kernel
theorem dX8_odds_35 : decode cX8_odds 35 = .ok (.aload_n 0, 1) := by decide +kernel
theorem dX8_odds_36 : decode cX8_odds 36 = .ok (.getfield 19, 3) := by decide +kernel
theorem dX8_odds_39 : decode cX8_odds 39 = .ok (.getfield 184, 3) := by decide +kernel
theorem dX8_odds_42 : decode cX8_odds 42 = .ok (.isub, 1) := by decide +kernel
theorem dX8_odds_43 : decode cX8_odds 43 = .ok (.imul, 1) := by decide +kernel
theorem dX8_odds_44 : decode cX8_odds 44 = .ok (.istore_n 3, 1) := by decide +kernel
theorem dX8_odds_45 : decode cX8_odds 45 = .ok (.iload 4, 2) := by decide +kernel
theorem dX8_odds_47 : decode cX8_odds 47 = .ok (.bipush 100, 2) := by decide +kernel
theorem dX8_odds_49 : decode cX8_odds 49 = .ok (.imul, 1) := by decide +kernel
theorem dX8_odds_50 : decode cX8_odds 50 = .ok (.istore 4, 2) := by decide +kernel
theorem dX8_odds_52 : decode cX8_odds 52 = .ok (.iinc 5 1, 3) := by decide +kernel
theorem dX8_odds_55 : decode cX8_odds 55 = .ok (.goto (-29), 3) := by decide +kernel
theorem dX8_odds_58 : decode cX8_odds 58 = .ok (.iload 4, 2) := by decide +kernel
theorem dX8_odds_60 : decode cX8_odds 60 = .ok (.iload_n 3, 1) := by decide +kernel
theorem dX8_odds_61 : decode cX8_odds 61 = .ok (.invokestatic 330, 3) := by decide +kernel
theorem dX8_odds_64 : decode cX8_odds 64 = .ok (.istore 5, 2) := by decide +kernel
theorem dX8_odds_66 : decode cX8_odds 66 = .ok (.iload_n 2, 1) := by decide +kernel
theorem dX8_odds_67 : decode cX8_odds 67 = .ok (.ifCond .ne 7, 3) := by decide +kernel
theorem dX8_odds_70 : decode cX8_odds 70 = .ok (.iload_n 3, 1) := by decide +kernel
theorem dX8_odds_71 : decode cX8_odds 71 = .ok (.goto 5, 3) := by decide +kernel
theorem dX8_odds_74 : decode cX8_odds 74 = .ok (.iload 4, 2) := by decide +kernel
theorem dX8_odds_76 : decode cX8_odds 76 = .ok (.iload 5, 2) := by decide +kernel
theorem dX8_odds_78 : decode cX8_odds 78 = .ok (.idiv, 1) := by decide +kernel
theorem dX8_odds_79 : decode cX8_odds 79 = .ok (.ireturn, 1) := by decide +kernel
theorem dX8_commonDivisor_0 : decode cX8_commonDivisor 0 = .ok (.iload_n 0, 1) := by decide +kernel
theorem dX8_commonDivisor_1 : decode cX8_commonDivisor 1 = .ok (.istore_n 2, 1) := by decide +kernel
theorem dX8_commonDivisor_2 : decode cX8_commonDivisor 2 = .ok (.iload_n 1, 1) := by decide +kernel
theorem dX8_commonDivisor_3 : decode cX8_commonDivisor 3 = .ok (.istore_n 3, 1) := by decide +kernel
theorem dX8_commonDivisor_4 : decode cX8_commonDivisor 4 = .ok (.iconst 0, 1) := by decide +kernel
theorem dX8_commonDivisor_5 : decode cX8_commonDivisor 5 = .ok (.istore 4, 2) := by decide +kernel
theorem dX8_commonDivisor_7 : decode cX8_commonDivisor 7 = .ok (.iload 4, 2) := by decide +kernel
theorem dX8_commonDivisor_9 : decode cX8_commonDivisor 9 = .ok (.bipush 64, 2) := by decide +kernel
theorem dX8_commonDivisor_11 : decode cX8_commonDivisor 11 = .ok (.if_icmp .ge 23, 3) := by decide +kernel
theorem dX8_commonDivisor_14 : decode cX8_commonDivisor 14 = .ok (.iload_n 3, 1) := by decide +kernel
theorem dX8_commonDivisor_15 : decode cX8_commonDivisor 15 = .ok (.ifCond .eq 19, 3) := by decide +kernel
theorem dX8_commonDivisor_18 : decode cX8_commonDivisor 18 = .ok (.iload_n 2, 1) := by decide +kernel
theorem dX8_commonDivisor_19 : decode cX8_commonDivisor 19 = .ok (.iload_n 3, 1) := by decide +kernel
theorem dX8_commonDivisor_20 : decode cX8_commonDivisor 20 = .ok (.irem, 1) := by decide +kernel
theorem dX8_commonDivisor_21 : decode cX8_commonDivisor 21 = .ok (.istore 5, 2) := by decide +kernel
theorem dX8_commonDivisor_23 : decode cX8_commonDivisor 23 = .ok (.iload_n 3, 1) := by decide +kernel
theorem dX8_commonDivisor_24 : decode cX8_commonDivisor 24 = .ok (.istore_n 2, 1) := by decide +kernel
theorem dX8_commonDivisor_25 : decode cX8_commonDivisor 25 = .ok (.iload 5, 2) := by decide +kernel
theorem dX8_commonDivisor_27 : decode cX8_commonDivisor 27 = .ok (.istore_n 3, 1) := by decide +kernel
theorem dX8_commonDivisor_28 : decode cX8_commonDivisor 28 = .ok (.iinc 4 1, 3) := by decide +kernel
theorem dX8_commonDivisor_31 : decode cX8_commonDivisor 31 = .ok (.goto (-24), 3) := by decide +kernel
theorem dX8_commonDivisor_34 : decode cX8_commonDivisor 34 = .ok (.iconst 1, 1) := by decide +kernel
theorem dX8_commonDivisor_35 : decode cX8_commonDivisor 35 = .ok (.iload_n 2, 1) := by decide +kernel
theorem dX8_commonDivisor_36 : decode cX8_commonDivisor 36 = .ok (.invokestatic 282, 3) := by decide +kernel
theorem dX8_commonDivisor_39 : decode cX8_commonDivisor 39 = .ok (.ireturn, 1) := by decide +kernel
set_option maxRecDepth 20000 in
theorem ggX8_seen_X5_isClaim : GoodIn wsX8_seen wsX5_isClaim := goodIn_r _ [8, 9, 10, 11, 12, 7, 13, 14, 15, 16, 17, 41, 42, 43, 44, 45, 46, 47, 48, 49, 50, 51, 52] rfl rfl
set_option maxRecDepth 20000 in
theorem gX8_seen_X5_isClaim : GoodIn wsX8_seen (wsV RX8 244 RX5 yX5_isClaim wsX5_isClaim) := goodIn_app (goodIn_of _ (by decide +kernel)) ggX8_seen_X5_isClaim
set_option maxRecDepth 20000 in
theorem ggX8_seen_X7_tell : GoodIn wsX8_seen wsX7_tell := goodIn_r _ [22, 23, 24, 25, 26, 27, 53, 54, 55, 56, 57] rfl rfl
set_option maxRecDepth 20000 in
theorem gX8_seen_X7_tell : GoodIn wsX8_seen (wsV RX8 333 RX7 yX7_tell wsX7_tell) := goodIn_app (goodIn_of _ (by decide +kernel)) ggX8_seen_X7_tell
theorem dX8_seen_0 : decode cX8_seen 0 = .ok (.aload_n 0, 1) := by decide +kernel
theorem dX8_seen_1 : decode cX8_seen 1 = .ok (.getfield 19, 3) := by decide +kernel
theorem dX8_seen_4 : decode cX8_seen 4 = .ok (.iload_n 1, 1) := by decide +kernel
theorem dX8_seen_5 : decode cX8_seen 5 = .ok (.invokevirtual 244, 3) := by decide +kernel
theorem dX8_seen_8 : decode cX8_seen 8 = .ok (.ifCond .eq 19, 3) := by decide +kernel
theorem dX8_seen_11 : decode cX8_seen 11 = .ok (.aload_n 0, 1) := by decide +kernel
theorem dX8_seen_12 : decode cX8_seen 12 = .ok (.getfield 58, 3) := by decide +kernel
theorem dX8_seen_15 : decode cX8_seen 15 = .ok (.iload_n 1, 1) := by decide +kernel
theorem dX8_seen_16 : decode cX8_seen 16 = .ok (.iload_n 2, 1) := by decide +kernel
theorem dX8_seen_17 : decode cX8_seen 17 = .ok (.aload_n 0, 1) := by decide +kernel
theorem dX8_seen_18 : decode cX8_seen 18 = .ok (.getfield 172, 3) := by decide +kernel
theorem dX8_seen_21 : decode cX8_seen 21 = .ok (.invokevirtual 333, 3) := by decide +kernel
theorem dX8_seen_24 : decode cX8_seen 24 = .ok (.goto 4, 3) := by decide +kernel
theorem dX8_seen_27 : decode cX8_seen 27 = .ok (.iconst (-1), 1) := by decide +kernel
theorem dX8_seen_28 : decode cX8_seen 28 = .ok (.ireturn, 1) := by decide +kernel
set_option maxRecDepth 20000 in
theorem ggX8_untell_X7_takeBack : GoodIn wsX8_untell wsX7_takeBack := goodIn_r _ [7, 8, 9, 23, 24, 25, 26, 27] rfl rfl
set_option maxRecDepth 20000 in
theorem gX8_untell_X7_takeBack : GoodIn wsX8_untell (wsV RX8 337 RX7 yX7_takeBack wsX7_takeBack) := goodIn_app (goodIn_of _ (by decide +kernel)) ggX8_untell_X7_takeBack
theorem dX8_untell_0 : decode cX8_untell 0 = .ok (.aload_n 0, 1) := by decide +kernel
theorem dX8_untell_1 : decode cX8_untell 1 = .ok (.getfield 58, 3) := by decide +kernel
theorem dX8_untell_4 : decode cX8_untell 4 = .ok (.iload_n 1, 1) := by decide +kernel
theorem dX8_untell_5 : decode cX8_untell 5 = .ok (.aload_n 0, 1) := by decide +kernel
theorem dX8_untell_6 : decode cX8_untell 6 = .ok (.getfield 172, 3) := by decide +kernel
theorem dX8_untell_9 : decode cX8_untell 9 = .ok (.invokevirtual 337, 3) := by decide +kernel
theorem dX8_untell_12 : decode cX8_untell 12 = .ok (.ireturn, 1) := by decide +kernel
theorem dX8_later_0 : decode cX8_later 0 = .ok (.iload_n 1, 1) := by decide +kernel
theorem dX8_later_1 : decode cX8_later 1 = .ok (.ifCond .lt 22, 3) := by decide +kernel
theorem dX8_later_4 : decode cX8_later 4 = .ok (.iload_n 1, 1) := by decide +kernel
theorem dX8_later_5 : decode cX8_later 5 = .ok (.sipush 1000, 3) := by decide +kernel
theorem dX8_later_8 : decode cX8_later 8 = .ok (.if_icmp .gt 15, 3) := by decide +kernel
theorem dX8_later_11 : decode cX8_later 11 = .ok (.aload_n 0, 1) := by decide +kernel
theorem dX8_later_12 : decode cX8_later 12 = .ok (.getfield 172, 3) := by decide +kernel
theorem dX8_later_15 : decode cX8_later 15 = .ok (.iload_n 1, 1) := by decide +kernel
theorem dX8_later_16 : decode cX8_later 16 = .ok (.iadd, 1) := by decide +kernel
theorem dX8_later_17 : decode cX8_later 17 = .ok (.ldc_w 340, 3) := by decide +kernel
theorem dX8_later_20 : decode cX8_later 20 = .ok (.if_icmp .le 5, 3) := by decide +kernel
theorem dX8_later_23 : decode cX8_later 23 = .ok (.iconst (-1), 1) := by decide +kernel
theorem dX8_later_24 : decode cX8_later 24 = .ok (.ireturn, 1) := by decide +kernel
theorem dX8_later_25 : decode cX8_later 25 = .ok (.aload_n 0, 1) := by decide +kernel
theorem dX8_later_26 : decode cX8_later 26 = .ok (.dup, 1) := by decide +kernel
theorem dX8_later_27 : decode cX8_later 27 = .ok (.getfield 172, 3) := by decide +kernel
theorem dX8_later_30 : decode cX8_later 30 = .ok (.iload_n 1, 1) := by decide +kernel
theorem dX8_later_31 : decode cX8_later 31 = .ok (.iadd, 1) := by decide +kernel
theorem dX8_later_32 : decode cX8_later 32 = .ok (.putfield 172, 3) := by decide +kernel
theorem dX8_later_35 : decode cX8_later 35 = .ok (.aload_n 0, 1) := by decide +kernel
theorem dX8_later_36 : decode cX8_later 36 = .ok (.getfield 172, 3) := by decide +kernel
theorem dX8_later_39 : decode cX8_later 39 = .ok (.ireturn, 1) := by decide +kernel
set_option maxRecDepth 20000 in
theorem ggX8_ways_X8_findWays : GoodIn wsX8_ways wsX8_findWays := goodIn_r _ [7, 8, 9, 10, 1, 11, 12, 13, 14, 15, 16, 17, 18, 19, 20, 21, 22, 23, 24, 25, 26, 27, 28, 29, 30, 31, 32, 33, 34, 35, 36, 37, 38, 39, 40, 41, 42, 43, 44, 45, 46, 47, 48, 49, 50, 51, 52, 53, 54, 55, 56, 57, 58, 59, 60, 61, 62, 63, 64, 65, 66, 67, 68, 69, 70, 71, 72, 73, 74, 75, 6, 76, 77, 78, 79, 80, 81, 82, 83, 84, 85, 86, 87, 88, 89, 90, 91, 92, 93, 94, 95, 96, 97, 98, 99, 100, 101, 102, 103, 104, 105, 106, 107, 108, 109, 110, 111, 112, 113, 114, 115, 116, 117, 118, 119, 120, 121, 122, 123, 124, 125, 126, 127, 128, 129, 130, 131, 132, 133, 134, 135, 136, 137, 138, 139, 140, 141, 142, 143, 144, 145, 146, 147, 148, 149, 150, 151, 152, 153, 154, 155, 156, 157, 158, 159, 160, 161, 162, 163, 164, 165, 166, 167, 168, 169, 170, 171, 172, 173, 174, 175, 176, 177, 181, 182, 183, 184, 185, 186, 187, 188, 189, 190, 191, 192, 193, 194, 195, 196, 197, 198, 199, 200, 201, 202, 203, 204, 205, 206, 207, 178, 179, 180, 208, 209, 210, 211, 212, 213, 214, 215, 216, 217, 218] rfl rfl
set_option maxRecDepth 20000 in
theorem gX8_ways_X8_findWays : GoodIn wsX8_ways (wsV RX8 341 RX8 yX8_findWays wsX8_findWays) := goodIn_app (goodIn_of _ (by decide +kernel)) ggX8_ways_X8_findWays
theorem dX8_ways_0 : decode cX8_ways 0 = .ok (.aload_n 0, 1) := by decide +kernel
theorem dX8_ways_1 : decode cX8_ways 1 = .ok (.iload_n 1, 1) := by decide +kernel
theorem dX8_ways_2 : decode cX8_ways 2 = .ok (.invokevirtual 341, 3) := by decide +kernel
theorem dX8_ways_5 : decode cX8_ways 5 = .ok (.aload_n 0, 1) := by decide +kernel
theorem dX8_ways_6 : decode cX8_ways 6 = .ok (.getfield 65, 3) := by decide +kernel
theorem dX8_ways_9 : decode cX8_ways 9 = .ok (.getfield 344, 3) := by decide +kernel
theorem dX8_ways_12 : decode cX8_ways 12 = .ok (.ireturn, 1) := by decide +kernel
set_option maxRecDepth 20000 in
theorem ggX8_sure_X5_isStrand : GoodIn wsX8_sure wsX5_isStrand := goodIn_r _ [8, 9, 193, 194, 195, 196, 197, 198, 199, 200, 201, 202, 203, 204] rfl rfl
set_option maxRecDepth 20000 in
theorem gX8_sure_X5_isStrand : GoodIn wsX8_sure (wsV RX8 133 RX5 yX5_isStrand wsX5_isStrand) := goodIn_app (goodIn_of _ (by decide +kernel)) ggX8_sure_X5_isStrand
set_option maxRecDepth 20000 in
theorem ggX8_sure_X8_findWays : GoodIn wsX8_sure wsX8_findWays := goodIn_r _ [14, 15, 1, 16, 2, 17, 18, 19, 20, 21, 22, 23, 24, 25, 26, 27, 28, 29, 30, 31, 32, 33, 34, 35, 36, 7, 37, 9, 38, 39, 40, 41, 42, 43, 44, 45, 46, 47, 48, 49, 50, 51, 52, 53, 54, 55, 56, 57, 58, 59, 60, 61, 62, 63, 64, 65, 66, 67, 68, 69, 70, 71, 72, 73, 74, 75, 76, 77, 78, 79, 13, 80, 81, 82, 83, 84, 85, 86, 87, 88, 89, 90, 91, 92, 93, 94, 95, 96, 97, 98, 99, 100, 101, 102, 103, 104, 105, 106, 107, 108, 109, 110, 111, 112, 113, 114, 115, 116, 117, 118, 119, 120, 121, 122, 123, 124, 125, 126, 127, 128, 129, 130, 131, 132, 133, 134, 135, 136, 137, 138, 139, 140, 141, 142, 143, 144, 145, 146, 147, 148, 149, 150, 151, 152, 153, 154, 155, 156, 157, 158, 159, 160, 161, 162, 163, 164, 165, 166, 167, 168, 177, 178, 179, 180, 181, 182, 183, 184, 185, 186, 187, 188, 189, 193, 194, 195, 196, 197, 198, 199, 200, 201, 202, 203, 204, 205, 206, 207, 208, 209, 210, 211, 212, 213, 214, 215, 216, 217, 218, 219, 190, 191, 192, 220, 221, 222, 223, 224, 225, 226, 227, 228, 229, 230] rfl rfl
set_option maxRecDepth 20000 in
theorem gX8_sure_X8_findWays : GoodIn wsX8_sure (wsV RX8 341 RX8 yX8_findWays wsX8_findWays) := goodIn_app (goodIn_of _ (by decide +kernel)) ggX8_sure_X8_findWays
set_option maxRecDepth 20000 in
theorem ggX8_sure_X6_countCut : GoodIn wsX8_sure wsX6_countCut := goodIn_r _ [172, 167, 173, 174, 175, 59, 176, 61, 79, 13, 80, 190, 191, 192] rfl rfl
set_option maxRecDepth 20000 in
theorem gX8_sure_X6_countCut : GoodIn wsX8_sure (wsV RX8 345 RX6 yX6_countCut wsX6_countCut) := goodIn_app (goodIn_of _ (by decide +kernel)) ggX8_sure_X6_countCut
theorem dX8_sure_0 : decode cX8_sure 0 = .ok (.aload_n 0, 1) := by decide +kernel
theorem dX8_sure_1 : decode cX8_sure 1 = .ok (.getfield 19, 3) := by decide +kernel
theorem dX8_sure_4 : decode cX8_sure 4 = .ok (.iload_n 1, 1) := by decide +kernel
theorem dX8_sure_5 : decode cX8_sure 5 = .ok (.invokevirtual 133, 3) := by decide +kernel
theorem dX8_sure_8 : decode cX8_sure 8 = .ok (.ifCond .ne 5, 3) := by decide +kernel
theorem dX8_sure_11 : decode cX8_sure 11 = .ok (.iconst (-1), 1) := by decide +kernel
theorem dX8_sure_12 : decode cX8_sure 12 = .ok (.ireturn, 1) := by decide +kernel
theorem dX8_sure_13 : decode cX8_sure 13 = .ok (.aload_n 0, 1) := by decide +kernel
theorem dX8_sure_14 : decode cX8_sure 14 = .ok (.iload_n 2, 1) := by decide +kernel
theorem dX8_sure_15 : decode cX8_sure 15 = .ok (.invokevirtual 341, 3) := by decide +kernel
theorem dX8_sure_18 : decode cX8_sure 18 = .ok (.aload_n 0, 1) := by decide +kernel
theorem dX8_sure_19 : decode cX8_sure 19 = .ok (.getfield 65, 3) := by decide +kernel
theorem dX8_sure_22 : decode cX8_sure 22 = .ok (.getfield 344, 3) := by decide +kernel
theorem dX8_sure_25 : decode cX8_sure 25 = .ok (.ifCond .ne 5, 3) := by decide +kernel
theorem dX8_sure_28 : decode cX8_sure 28 = .ok (.iconst (-1), 1) := by decide +kernel
theorem dX8_sure_29 : decode cX8_sure 29 = .ok (.ireturn, 1) := by decide +kernel
theorem dX8_sure_30 : decode cX8_sure 30 = .ok (.aload_n 0, 1) := by decide +kernel
theorem dX8_sure_31 : decode cX8_sure 31 = .ok (.getfield 65, 3) := by decide +kernel
theorem dX8_sure_34 : decode cX8_sure 34 = .ok (.iload_n 1, 1) := by decide +kernel
theorem dX8_sure_35 : decode cX8_sure 35 = .ok (.invokevirtual 345, 3) := by decide +kernel
theorem dX8_sure_38 : decode cX8_sure 38 = .ok (.istore_n 3, 1) := by decide +kernel
theorem dX8_sure_39 : decode cX8_sure 39 = .ok (.iload_n 3, 1) := by decide +kernel
theorem dX8_sure_40 : decode cX8_sure 40 = .ok (.aload_n 0, 1) := by decide +kernel
theorem dX8_sure_41 : decode cX8_sure 41 = .ok (.getfield 65, 3) := by decide +kernel
theorem dX8_sure_44 : decode cX8_sure 44 = .ok (.getfield 344, 3) := by decide +kernel
theorem dX8_sure_47 : decode cX8_sure 47 = .ok (.if_icmp .ne 5, 3) := by decide +kernel
theorem dX8_sure_50 : decode cX8_sure 50 = .ok (.iconst 1, 1) := by decide +kernel
theorem dX8_sure_51 : decode cX8_sure 51 = .ok (.ireturn, 1) := by decide +kernel
theorem dX8_sure_52 : decode cX8_sure 52 = .ok (.iload_n 3, 1) := by decide +kernel
theorem dX8_sure_53 : decode cX8_sure 53 = .ok (.ifCond .ne 7, 3) := by decide +kernel
theorem dX8_sure_56 : decode cX8_sure 56 = .ok (.iconst 0, 1) := by decide +kernel
theorem dX8_sure_57 : decode cX8_sure 57 = .ok (.goto 5, 3) := by decide +kernel
theorem dX8_sure_60 : decode cX8_sure 60 = .ok (.bipush (-2), 2) := by decide +kernel
theorem dX8_sure_62 : decode cX8_sure 62 = .ok (.ireturn, 1) := by decide +kernel
set_option maxRecDepth 20000 in
theorem ggX8_ask_X8_findWays : GoodIn wsX8_ask wsX8_findWays := goodIn_r _ [9, 10, 3, 11, 1, 12, 13, 14, 15, 16, 17, 18, 19, 20, 21, 22, 23, 24, 25, 26, 27, 28, 29, 30, 31, 32, 33, 34, 35, 36, 37, 38, 39, 40, 41, 42, 43, 44, 45, 46, 47, 48, 49, 50, 51, 52, 53, 54, 55, 56, 57, 58, 59, 60, 61, 62, 63, 64, 65, 66, 67, 68, 69, 70, 71, 72, 73, 74, 75, 76, 8, 77, 78, 79, 80, 81, 82, 83, 84, 85, 86, 87, 88, 89, 90, 91, 92, 93, 94, 95, 96, 97, 98, 99, 100, 101, 102, 103, 104, 105, 106, 107, 108, 109, 110, 111, 112, 113, 114, 115, 116, 117, 118, 119, 120, 121, 122, 123, 124, 125, 126, 127, 128, 129, 130, 131, 132, 133, 134, 135, 136, 137, 138, 139, 140, 141, 142, 143, 144, 145, 146, 147, 148, 149, 150, 151, 152, 153, 154, 155, 156, 157, 158, 159, 160, 161, 162, 163, 164, 165, 186, 187, 188, 189, 190, 191, 192, 193, 194, 195, 196, 197, 198, 202, 203, 204, 205, 206, 207, 208, 209, 210, 211, 212, 213, 214, 215, 216, 217, 218, 219, 220, 221, 222, 223, 224, 225, 226, 227, 228, 199, 200, 201, 229, 230, 231, 232, 233, 234, 235, 236, 237, 238, 239] rfl rfl
set_option maxRecDepth 20000 in
theorem gX8_ask_X8_findWays : GoodIn wsX8_ask (wsV RX8 341 RX8 yX8_findWays wsX8_findWays) := goodIn_app (goodIn_of _ (by decide +kernel)) ggX8_ask_X8_findWays
set_option maxRecDepth 20000 in
theorem ggX8_ask_X8_isZeroOrOne : GoodIn wsX8_ask wsX8_isZeroOrOne := goodIn_r _ [168] rfl rfl
set_option maxRecDepth 20000 in
theorem gX8_ask_X8_isZeroOrOne : GoodIn wsX8_ask (va_wsS RX8 234 yX8_isZeroOrOne wsX8_isZeroOrOne) := goodIn_app (goodIn_of _ (by decide +kernel)) ggX8_ask_X8_isZeroOrOne
set_option maxRecDepth 20000 in
theorem ggX8_ask_X6_leftAtMost : GoodIn wsX8_ask wsX6_leftAtMost := goodIn_r _ [172, 165, 58, 173, 94, 91, 95, 174, 175, 176, 56, 177, 76, 8, 77, 199, 200, 201] rfl rfl
set_option maxRecDepth 20000 in
theorem gX8_ask_X6_leftAtMost : GoodIn wsX8_ask (wsV RX8 348 RX6 yX6_leftAtMost wsX6_leftAtMost) := goodIn_app (goodIn_of _ (by decide +kernel)) ggX8_ask_X6_leftAtMost
set_option maxRecDepth 20000 in
theorem ggX8_ask_X5_isClaim : GoodIn wsX8_ask wsX5_isClaim := goodIn_r _ [181, 141, 182, 183, 184, 32, 185, 140, 76, 8, 77, 202, 203, 204, 205, 206, 207, 208, 209, 210, 211, 212, 213] rfl rfl
set_option maxRecDepth 20000 in
theorem gX8_ask_X5_isClaim : GoodIn wsX8_ask (wsV RX8 244 RX5 yX5_isClaim wsX5_isClaim) := goodIn_app (goodIn_of _ (by decide +kernel)) ggX8_ask_X5_isClaim
theorem dX8_ask_0 : decode cX8_ask 0 = .ok (.aload_n 0, 1) := by decide +kernel
theorem dX8_ask_1 : decode cX8_ask 1 = .ok (.iload_n 2, 1) := by decide +kernel
theorem dX8_ask_2 : decode cX8_ask 2 = .ok (.invokevirtual 341, 3) := by decide +kernel
theorem dX8_ask_5 : decode cX8_ask 5 = .ok (.aload_n 0, 1) := by decide +kernel
theorem dX8_ask_6 : decode cX8_ask 6 = .ok (.getfield 65, 3) := by decide +kernel
theorem dX8_ask_9 : decode cX8_ask 9 = .ok (.getfield 344, 3) := by decide +kernel
theorem dX8_ask_12 : decode cX8_ask 12 = .ok (.ifCond .eq 10, 3) := by decide +kernel
theorem dX8_ask_15 : decode cX8_ask 15 = .ok (.iload_n 1, 1) := by decide +kernel
theorem dX8_ask_16 : decode cX8_ask 16 = .ok (.invokestatic 234, 3) := by decide +kernel
theorem dX8_ask_19 : decode cX8_ask 19 = .ok (.ifCond .ne 5, 3) := by decide +kernel
theorem dX8_ask_22 : decode cX8_ask 22 = .ok (.iconst (-1), 1) := by decide +kernel
theorem dX8_ask_23 : decode cX8_ask 23 = .ok (.ireturn, 1) := by decide +kernel
theorem dX8_ask_24 : decode cX8_ask 24 = .ok (.iconst (-1), 1) := by decide +kernel
theorem dX8_ask_25 : decode cX8_ask 25 = .ok (.istore_n 3, 1) := by decide +kernel
theorem dX8_ask_26 : decode cX8_ask 26 = .ok (.iconst (-1), 1) := by decide +kernel
theorem dX8_ask_27 : decode cX8_ask 27 = .ok (.istore 4, 2) := by decide +kernel
theorem dX8_ask_29 : decode cX8_ask 29 = .ok (.iconst 0, 1) := by decide +kernel
theorem dX8_ask_30 : decode cX8_ask 30 = .ok (.istore 5, 2) := by decide +kernel
theorem dX8_ask_32 : decode cX8_ask 32 = .ok (.iload 5, 2) := by decide +kernel
theorem dX8_ask_34 : decode cX8_ask 34 = .ok (.aload_n 0, 1) := by decide +kernel
theorem dX8_ask_35 : decode cX8_ask 35 = .ok (.getfield 19, 3) := by decide +kernel
theorem dX8_ask_38 : decode cX8_ask 38 = .ok (.getfield 105, 3) := by decide +kernel
theorem dX8_ask_41 : decode cX8_ask 41 = .ok (.if_icmp .ge 51, 3) := by decide +kernel
theorem dX8_ask_44 : decode cX8_ask 44 = .ok (.aload_n 0, 1) := by decide +kernel
theorem dX8_ask_45 : decode cX8_ask 45 = .ok (.getfield 65, 3) := by decide +kernel
theorem dX8_ask_48 : decode cX8_ask 48 = .ok (.iload 5, 2) := by decide +kernel
theorem dX8_ask_50 : decode cX8_ask 50 = .ok (.invokevirtual 348, 3) := by decide +kernel
theorem dX8_ask_53 : decode cX8_ask 53 = .ok (.istore 6, 2) := by decide +kernel
theorem dX8_ask_55 : decode cX8_ask 55 = .ok (.aload_n 0, 1) := by decide +kernel
theorem dX8_ask_56 : decode cX8_ask 56 = .ok (.getfield 19, 3) := by decide +kernel
theorem dX8_ask_59 : decode cX8_ask 59 = .ok (.iload 5, 2) := by decide +kernel
theorem dX8_ask_61 : decode cX8_ask 61 = .ok (.invokevirtual 244, 3) := by decide +kernel
theorem dX8_ask_64 : decode cX8_ask 64 = .ok (.ifCond .eq 22, 3) := by decide +kernel
theorem dX8_ask_67 : decode cX8_ask 67 = .ok (.iload_n 3, 1) := by decide +kernel
theorem dX8_ask_68 : decode cX8_ask 68 = .ok (.iconst (-1), 1) := by decide +kernel
theorem dX8_ask_69 : decode cX8_ask 69 = .ok (.if_icmp .eq 10, 3) := by decide +kernel
theorem dX8_ask_72 : decode cX8_ask 72 = .ok (.iload 6, 2) := by decide +kernel
theorem dX8_ask_74 : decode cX8_ask 74 = .ok (.iload 4, 2) := by decide +kernel
theorem dX8_ask_76 : decode cX8_ask 76 = .ok (.if_icmp .ge 10, 3) := by decide +kernel
theorem dX8_ask_79 : decode cX8_ask 79 = .ok (.iload 5, 2) := by decide +kernel
theorem dX8_ask_81 : decode cX8_ask 81 = .ok (.istore_n 3, 1) := by decide +kernel
theorem dX8_ask_82 : decode cX8_ask 82 = .ok (.iload 6, 2) := by decide +kernel
theorem dX8_ask_84 : decode cX8_ask 84 = .ok (.istore 4, 2) := by decide +kernel
theorem dX8_ask_86 : decode cX8_ask 86 = .ok (.iinc 5 1, 3) := by decide +kernel
theorem dX8_ask_89 : decode cX8_ask 89 = .ok (.goto (-57), 3) := by decide +kernel
theorem dX8_ask_92 : decode cX8_ask 92 = .ok (.iload_n 1, 1) := by decide +kernel
theorem dX8_ask_93 : decode cX8_ask 93 = .ok (.ifCond .ne 7, 3) := by decide +kernel
theorem dX8_ask_96 : decode cX8_ask 96 = .ok (.iload_n 3, 1) := by decide +kernel
theorem dX8_ask_97 : decode cX8_ask 97 = .ok (.goto 5, 3) := by decide +kernel
theorem dX8_ask_100 : decode cX8_ask 100 = .ok (.iload 4, 2) := by decide +kernel
theorem dX8_ask_102 : decode cX8_ask 102 = .ok (.ireturn, 1) := by decide +kernel
set_option maxRecDepth 20000 in
theorem ggX8_findWays_X4_startAs : GoodIn wsX8_findWays wsX4_startAs := goodIn_r _ [10, 11, 12, 13, 14, 15, 16, 17, 18, 19, 20, 21, 22, 23, 24, 25, 26, 27, 173, 174, 175, 176, 177, 178, 179, 180, 181, 182, 183, 184, 185, 186, 187, 188, 189] rfl rfl
set_option maxRecDepth 20000 in
theorem gX8_findWays_X4_startAs : GoodIn wsX8_findWays (wsV RX8 92 RX4 yX4_startAs wsX4_startAs) := goodIn_app (goodIn_of _ (by decide +kernel)) ggX8_findWays_X4_startAs
set_option maxRecDepth 20000 in
theorem ggX8_findWays_X2_take : GoodIn wsX8_findWays wsX2_take := goodIn_r _ [32, 33, 34, 35, 36, 37, 38, 39, 40, 41, 14, 15, 16, 42, 43, 44, 190, 191, 192, 193, 194, 195, 196, 197, 198, 199, 173, 174, 175, 176, 177, 178, 179, 180, 181, 182, 183, 184, 185, 186, 187, 188, 189] rfl rfl
set_option maxRecDepth 20000 in
theorem gX8_findWays_X2_take : GoodIn wsX8_findWays (wsV RX8 237 RX2 yX2_take wsX2_take) := goodIn_app (goodIn_of _ (by decide +kernel)) ggX8_findWays_X2_take
set_option maxRecDepth 20000 in
theorem ggX8_findWays_X5_allStrands : GoodIn wsX8_findWays wsX5_allStrands := goodIn_r _ [26, 27, 173, 174, 175, 176, 177, 178, 179, 180, 181, 182, 183, 184] rfl rfl
set_option maxRecDepth 20000 in
theorem gX8_findWays_X5_allStrands : GoodIn wsX8_findWays (wsV RX8 241 RX5 yX5_allStrands wsX5_allStrands) := goodIn_app (goodIn_of _ (by decide +kernel)) ggX8_findWays_X5_allStrands
set_option maxRecDepth 20000 in
theorem ggX8_findWays_X6_collect : GoodIn wsX8_findWays wsX6_collect := goodIn_r _ [50, 51, 52, 53, 54, 55, 56, 57, 58, 59, 60, 61, 31, 62, 36, 33, 63, 64, 65, 66, 67, 40, 68, 69, 70, 71, 72, 73, 74, 75, 76, 77, 78, 79, 80, 81, 82, 44, 43, 38, 83, 84, 85, 86, 87, 88, 89, 90, 91, 92, 93, 94, 95, 96, 97, 98, 99, 100, 101, 102, 103, 104, 105, 106, 107, 108, 109, 110, 111, 112, 113, 114, 115, 116, 117, 118, 119, 120, 121, 122, 123, 124, 125, 126, 127, 128, 129, 130, 131, 132, 25, 133, 134, 135, 136, 137, 138, 139, 140, 141, 142, 143, 144, 145, 146, 147, 148, 149, 150, 151, 152, 153, 154, 155, 156, 49, 157, 158, 159, 200, 201, 202, 190, 191, 192, 193, 194, 195, 196, 197, 198, 199, 173, 174, 175, 176, 177, 178, 179, 180, 181, 182, 183, 184, 203, 204, 205, 206, 207, 208, 209, 210, 211, 212, 213] rfl rfl
set_option maxRecDepth 20000 in
theorem gX8_findWays_X6_collect : GoodIn wsX8_findWays (wsV RX8 351 RX6 yX6_collect wsX6_collect) := goodIn_app (goodIn_of _ (by decide +kernel)) ggX8_findWays_X6_collect
theorem dX8_findWays_0 : decode cX8_findWays 0 = .ok (.aload_n 0, 1) := by decide +kernel
theorem dX8_findWays_1 : decode cX8_findWays 1 = .ok (.getfield 33, 3) := by decide +kernel
theorem dX8_findWays_4 : decode cX8_findWays 4 = .ok (.aload_n 0, 1) := by decide +kernel
theorem dX8_findWays_5 : decode cX8_findWays 5 = .ok (.getfield 19, 3) := by decide +kernel
theorem dX8_findWays_8 : decode cX8_findWays 8 = .ok (.invokevirtual 92, 3) := by decide +kernel
theorem dX8_findWays_11 : decode cX8_findWays 11 = .ok (.aload_n 0, 1) := by decide +kernel
theorem dX8_findWays_12 : decode cX8_findWays 12 = .ok (.getfield 44, 3) := by decide +kernel
theorem dX8_findWays_15 : decode cX8_findWays 15 = .ok (.aload_n 0, 1) := by decide +kernel
theorem dX8_findWays_16 : decode cX8_findWays 16 = .ok (.getfield 19, 3) := by decide +kernel
theorem dX8_findWays_19 : decode cX8_findWays 19 = .ok (.aload_n 0, 1) := by decide +kernel
theorem dX8_findWays_20 : decode cX8_findWays 20 = .ok (.getfield 33, 3) := by decide +kernel
theorem dX8_findWays_23 : decode cX8_findWays 23 = .ok (.invokevirtual 237, 3) := by decide +kernel
theorem dX8_findWays_26 : decode cX8_findWays 26 = .ok (.aload_n 0, 1) := by decide +kernel
theorem dX8_findWays_27 : decode cX8_findWays 27 = .ok (.getfield 65, 3) := by decide +kernel
theorem dX8_findWays_30 : decode cX8_findWays 30 = .ok (.aload_n 0, 1) := by decide +kernel
theorem dX8_findWays_31 : decode cX8_findWays 31 = .ok (.getfield 44, 3) := by decide +kernel
theorem dX8_findWays_34 : decode cX8_findWays 34 = .ok (.aload_n 0, 1) := by decide +kernel
theorem dX8_findWays_35 : decode cX8_findWays 35 = .ok (.getfield 19, 3) := by decide +kernel
theorem dX8_findWays_38 : decode cX8_findWays 38 = .ok (.invokevirtual 241, 3) := by decide +kernel
theorem dX8_findWays_41 : decode cX8_findWays 41 = .ok (.aload_n 0, 1) := by decide +kernel
theorem dX8_findWays_42 : decode cX8_findWays 42 = .ok (.getfield 58, 3) := by decide +kernel
theorem dX8_findWays_45 : decode cX8_findWays 45 = .ok (.iload_n 1, 1) := by decide +kernel
theorem dX8_findWays_46 : decode cX8_findWays 46 = .ok (.invokevirtual 351, 3) := by decide +kernel
theorem dX8_findWays_49 : decode cX8_findWays 49 = .ok (.return_, 1) := by decide +kernel
theorem in_X8_depth_X8 : ∀ w ∈ wsX80, w ∈ wsX8_depth := fun _ h => List.mem_cons_of_mem _ (List.mem_append_left _ (List.mem_append_left _ (List.mem_append_left _ (List.mem_append_left _ (List.mem_append_left _ (List.mem_append_right _ h))))))
theorem in_X8_depth_X5 : ∀ w ∈ wsX50, w ∈ wsX8_depth := fun _ h => List.mem_cons_of_mem _ (List.mem_append_left _ (List.mem_append_left _ (List.mem_append_left _ (List.mem_append_left _ (List.mem_append_right _ h)))))
theorem in_X8_depth_X2 : ∀ w ∈ wsX20, w ∈ wsX8_depth := fun _ h => List.mem_cons_of_mem _ (List.mem_append_left _ (List.mem_append_left _ (List.mem_append_left _ (List.mem_append_right _ h))))
theorem in_X8_weakest_X8 : ∀ w ∈ wsX80, w ∈ wsX8_weakest := fun _ h => List.mem_cons_of_mem _ (List.mem_append_left _ (List.mem_append_left _ (List.mem_append_left _ (List.mem_append_left _ (List.mem_append_left _ (List.mem_append_right _ h))))))
theorem in_X8_weakest_X5 : ∀ w ∈ wsX50, w ∈ wsX8_weakest := fun _ h => List.mem_cons_of_mem _ (List.mem_append_left _ (List.mem_append_left _ (List.mem_append_left _ (List.mem_append_right _ h))))
theorem in_X8_weakest_X2 : ∀ w ∈ wsX20, w ∈ wsX8_weakest := fun _ h => List.mem_cons_of_mem _ (List.mem_append_left _ (List.mem_append_left _ (List.mem_append_right _ h)))
theorem in_X8_weakest_X4 : ∀ w ∈ wsX40, w ∈ wsX8_weakest := fun _ h => List.mem_cons_of_mem _ (List.mem_append_left _ (List.mem_append_left _ (List.mem_append_left _ (List.mem_append_left _ (List.mem_append_right _ h)))))
theorem in_X8_lies_X8 : ∀ w ∈ wsX80, w ∈ wsX8_lies := fun _ h => List.mem_cons_of_mem _ (List.mem_append_right _ h)
theorem in_X8_odds_X8 : ∀ w ∈ wsX80, w ∈ wsX8_odds := fun _ h => List.mem_cons_of_mem _ (List.mem_append_left _ (List.mem_append_right _ h))
theorem in_X8_odds_X5 : ∀ w ∈ wsX50, w ∈ wsX8_odds := fun _ h => List.mem_cons_of_mem _ (List.mem_append_right _ h)
theorem in_X7_tell_X7 : ∀ w ∈ wsX70, w ∈ wsX7_tell := fun _ h => List.mem_cons_of_mem _ (List.mem_append_right _ h)
theorem in_X8_seen_X8 : ∀ w ∈ wsX80, w ∈ wsX8_seen := fun _ h => List.mem_cons_of_mem _ (List.mem_append_left _ (List.mem_append_left _ (List.mem_append_right _ h)))
theorem in_X7_takeBack_X7 : ∀ w ∈ wsX70, w ∈ wsX7_takeBack := fun _ h => List.mem_cons_of_mem _ (List.mem_append_right _ h)
theorem in_X8_untell_X8 : ∀ w ∈ wsX80, w ∈ wsX8_untell := fun _ h => List.mem_cons_of_mem _ (List.mem_append_left _ (List.mem_append_right _ h))
theorem in_X8_later_X8 : ∀ w ∈ wsX80, w ∈ wsX8_later := fun _ h => List.mem_cons_of_mem _ (List.mem_append_right _ h)
theorem in_X6_keep_X6 : ∀ w ∈ wsX60, w ∈ wsX6_keep := fun _ h => List.mem_cons_of_mem _ (List.mem_append_right _ h)
theorem in_X7_counts_X7 : ∀ w ∈ wsX70, w ∈ wsX7_counts := fun _ h => List.mem_cons_of_mem _ (List.mem_append_right _ h)
theorem in_X7_fits_X7 : ∀ w ∈ wsX70, w ∈ wsX7_fits := fun _ h => List.mem_cons_of_mem _ (List.mem_append_right _ h)
theorem in_X6_collect_X6 : ∀ w ∈ wsX60, w ∈ wsX6_collect := fun _ h => List.mem_cons_of_mem _ (List.mem_append_left _ (List.mem_append_left _ (List.mem_append_left _ (List.mem_append_left _ (List.mem_append_right _ h)))))
theorem in_X8_findWays_X8 : ∀ w ∈ wsX80, w ∈ wsX8_findWays := fun _ h => List.mem_cons_of_mem _ (List.mem_append_left _ (List.mem_append_left _ (List.mem_append_left _ (List.mem_append_left _ (List.mem_append_left _ (List.mem_append_left _ (List.mem_append_right _ h)))))))
theorem in_X8_ways_X8 : ∀ w ∈ wsX80, w ∈ wsX8_ways := fun _ h => List.mem_cons_of_mem _ (List.mem_append_left _ (List.mem_append_left _ (List.mem_append_left _ (List.mem_append_left _ (List.mem_append_left _ (List.mem_append_left _ (List.mem_append_right _ h)))))))
theorem in_X8_ways_X6 : ∀ w ∈ wsX60, w ∈ wsX8_ways := fun _ h => List.mem_cons_of_mem _ (List.mem_append_left _ (List.mem_append_left _ (List.mem_append_left _ (List.mem_append_left _ (List.mem_append_left _ (List.mem_append_right _ h))))))
theorem in_X6_countIn_X6 : ∀ w ∈ wsX60, w ∈ wsX6_countIn := fun _ h => List.mem_cons_of_mem _ (List.mem_append_right _ h)
theorem in_X6_countCut_X6 : ∀ w ∈ wsX60, w ∈ wsX6_countCut := fun _ h => List.mem_cons_of_mem _ (List.mem_append_right _ h)
theorem in_X8_sure_X8 : ∀ w ∈ wsX80, w ∈ wsX8_sure := fun _ h => List.mem_cons_of_mem _ (List.mem_append_left _ (List.mem_append_left _ (List.mem_append_left _ (List.mem_append_left _ (List.mem_append_left _ (List.mem_append_left _ (List.mem_append_right _ h)))))))
theorem in_X8_sure_X6 : ∀ w ∈ wsX60, w ∈ wsX8_sure := fun _ h => List.mem_cons_of_mem _ (List.mem_append_left _ (List.mem_append_left _ (List.mem_append_left _ (List.mem_append_left _ (List.mem_append_left _ (List.mem_append_right _ h))))))
theorem in_X6_leftAtMost_X6 : ∀ w ∈ wsX60, w ∈ wsX6_leftAtMost := fun _ h => List.mem_cons_of_mem _ (List.mem_append_right _ h)
theorem in_X8_ask_X8 : ∀ w ∈ wsX80, w ∈ wsX8_ask := fun _ h => List.mem_cons_of_mem _ (List.mem_append_left _ (List.mem_append_left _ (List.mem_append_left _ (List.mem_append_left _ (List.mem_append_left _ (List.mem_append_left _ (List.mem_append_right _ h)))))))
theorem in_X8_ask_X5 : ∀ w ∈ wsX50, w ∈ wsX8_ask := fun _ h => List.mem_cons_of_mem _ (List.mem_append_left _ (List.mem_append_left _ (List.mem_append_left _ (List.mem_append_left _ (List.mem_append_right _ h)))))
theorem in_X8_ask_X6 : ∀ w ∈ wsX60, w ∈ wsX8_ask := fun _ h => List.mem_cons_of_mem _ (List.mem_append_left _ (List.mem_append_left _ (List.mem_append_left _ (List.mem_append_left _ (List.mem_append_left _ (List.mem_append_right _ h))))))
theorem in_X8_image_X8 : ∀ w ∈ wsX80, w ∈ wsX8_image := fun _ h => List.mem_cons_of_mem _ (List.mem_append_left _ (List.mem_append_left _ (List.mem_append_right _ h)))
theorem in_X8_image_X4 : ∀ w ∈ wsX40, w ∈ wsX8_image := fun _ h => List.mem_cons_of_mem _ (List.mem_append_left _ (List.mem_append_right _ h))
set_option maxHeartbeats 4000000 in
set_option maxRecDepth 100000 in
theorem s_X8_depth_0 (l : Launch) (B0 : Nat) (adK adV : Nat → Nat) (D : va_G) (cy : Nat → ClassId) (ad : Nat → Nat) (fr0 : Nat → va_E) (tx : Int32) (rby : Int32) (rnx : Int32) (f : Nat → va_E) (hT : TYx ad cy fr0 tx rby rnx f) (sz : Nat) : TtI l yX8_depth wsX8_depth 6 144 [.ref (ad 0)] B0 adK adV D cy ad f sz (fun (r : Int32) (g : Nat → va_E) => (-1 ≤ r.toInt) ∧ (TYx ad cy fr0 tx rby rnx g)) := by
  refine TtI.of (cc := cX8_depth) (maxL := 4) (ty := .int) (own := RX8) (by decide) rfl (Nat.le_of_ble_eq_true rfl) rfl ?_
  intro p e s m below meth c A ls hx hb hr hml hts hown hlk hK hE hP hD hS hA hAB hl
  have hl : lv_has ls 4 [(0, .ref (ad 0))] := hl
  refine st0 (fun H locs hP hS => ?_) hP hS
  have j9 : ∀ (N : Nat) (f : Nat → va_E) (H : Heap) (locs : List Loc) (ls : Array Slot) (v9_l3 : Int32) (v9_l2 : Int32) (v9_l1 : Int32), (11 - v9_l3.toInt ≤ (N : Int)) → (0 ≤ v9_l3.toInt ∧ v9_l3.toInt ≤ 10) → (-1 ≤ v9_l2.toInt) → (TYx ad cy fr0 tx rby rnx f) → (va_P D vwCl (wl ad f) H) → (va_D A (wl ad f)) → (va_S A s.heap H locs) → (lv_has ls 4 [(3, .int v9_l3), (2, .int v9_l2), (1, .int v9_l1), (0, .ref (ad 0))]) → W p l e (rmO 6 144 0 0) s m ([.ref (ad 0)] : List Value).toArray below meth c H locs 0 0 (MQ below (va_Qi (fun (r : Int32) (g : Nat → va_E) => (-1 ≤ r.toInt) ∧ (TYx ad cy fr0 tx rby rnx g)) (fun g t => PstT D ad g t) A) ([.ref (ad 0)] : List Value).toArray s 0 0 A) (F0 m 9 ls []) := by
    intro N
    induction N with
    | zero => intro f H locs ls v9_l3 v9_l2 v9_l1 hN hv9_l3 hv9_l2 hT hP hD hS hl; exact absurd hN (by omega)
    | succ N ih9 =>
      intro f H locs ls v9_l3 v9_l2 v9_l1 hN hv9_l3 hv9_l2 hT hP hD hS hl
      have j42 : ∀ (f : Nat → va_E) (H : Heap) (locs : List Loc) (ls : Array Slot) (v42_l2 : Int32), (-1 ≤ v42_l2.toInt) → (0 ≤ v9_l3.toInt ∧ v9_l3.toInt ≤ 9) → (TYx ad cy fr0 tx rby rnx f) → (va_P D vwCl (wl ad f) H) → (va_D A (wl ad f)) → (va_S A s.heap H locs) → (lv_has ls 4 [(2, .int v42_l2), (3, .int v9_l3), (1, .int v9_l1), (0, .ref (ad 0))]) → W p l e (rmO 6 144 0 0) s m ([.ref (ad 0)] : List Value).toArray below meth c H locs 0 0 (MQ below (va_Qi (fun (r : Int32) (g : Nat → va_E) => (-1 ≤ r.toInt) ∧ (TYx ad cy fr0 tx rby rnx g)) (fun g t => PstT D ad g t) A) ([.ref (ad 0)] : List Value).toArray s 0 0 A) (F0 m 42 ls []) := by
        intro f H locs ls v42_l2 hv42_l2 hv42_l3 hT hP hD hS hl
        obtain ⟨x1, ex1⟩ : ∃ q : Int32, q = v9_l3 + Int32.ofInt (1) := ⟨_, rfl⟩
        refine lv_iinc (v := x1) (lv' := [(3, .int x1), (2, .int v42_l2), (1, .int v9_l1), (0, .ref (ad 0))]) hx hb dX8_depth_42 hl (k := 1) rfl ex1.symm (by decide) rfl (fun ls hl => ?_)
        have hx1 := r_inc ex1 (by decide) (by omega) (by omega)
        refine lv_goto (tgt := 9) hx hb dX8_depth_45 (by decide) ?_
        exact ih9 f H locs ls x1 v42_l2 v9_l1 (by omega) (by omega) (by omega) hT hP hD hS (lv_sub hl [0, 1, 2, 3] rfl)
      refine lv_iload_n hx hb dX8_depth_9 rfl (lv_at hl 0 rfl) ?_
      refine lv_aload_n hx hb dX8_depth_10 rfl (lv_at hl 3 rfl) ?_
      obtain ⟨t2, x4, x5, e7, h3, h6⟩ := (show okX8 ad tx 0 (f 0) from hT.1 0 (by decide))
      refine va_get (D := D) (cl := vwCl) (ci := 8) (v := .ref (ad t2)) (C := RX8) (T := TX8) (N := 13) hx hb hts in_X8_depth_X8 hown hK hP 0 (wl_at (by decide) e7) rfl 1 (by decide) (hts (.fieldLink RX8 19 "EightReasons" "told" "LEightReasons$Suit;") (List.mem_of_getElem? (i := 1) rfl)) (fun _ h9 => h9) rfl dX8_depth_11 ?_
      obtain ⟨x8, x10, x11, x13, x14, e15, h9, h12⟩ := (ty_suit hT h3)
      refine va_get (D := D) (cl := vwCl) (ci := 5) (v := .int x8) (C := RX5) (T := TX5) (N := 12) hx hb hts in_X8_depth_X5 hown hK hP t2 (wl_at (x_lt (x_suit0 h3)) e15) rfl 0 (by decide) (hts (.fieldLink RX8 105 "EightReasons$Suit" "points" "I") (List.mem_of_getElem? (i := 2) rfl)) (fun _ h9 => h9) rfl dX8_depth_14 ?_
      refine lv_icmp_ge (tgt := 48) hx hb dX8_depth_17 (by decide) (fun c16 => ?_) (fun c16 => ?_)
      · have kc16 := c_le c16
        refine lv_iload_n hx hb dX8_depth_48 rfl (lv_at hl 1 rfl) ?_
        exact tI hx hb hr hlk rfl hP hS ⟨(by omega), hT⟩ dX8_depth_49
      · have kc16 := c_nle c16
        refine lv_iload_n hx hb dX8_depth_20 rfl (lv_at hl 2 rfl) ?_
        refine lv_iload_n hx hb dX8_depth_21 rfl (lv_at hl 0 rfl) ?_
        refine tSI (As := [.int v9_l1, .int v9_l3]) (rest := []) ⟨hx, hb, hml, hown, hts⟩ hK hE hP hD hS hA hAB (s_X8_has_0 l B0 adK adV D cy ad f v9_l1 v9_l3 _) (va_cwS 2 hts gX8_depth_X8_has rfl rfl rfl (by decide +kernel) ⟨Nat.le_of_ble_eq_true rfl, Nat.le_of_ble_eq_true rfl⟩) rfl hl.1 rfl (Nat.le_of_ble_eq_true rfl) dX8_depth_22 ⟨Nat.le_of_ble_eq_true rfl, Nat.le_of_ble_eq_true rfl⟩ (fun r g H locs hw hP hD hS => ?_)
        obtain ⟨hrs, rfl⟩ := hw
        obtain ⟨x17, rfl⟩ : ∃ q, q = r := ⟨_, rfl⟩
        rcases hrs with rfl | rfl
        · refine lv_if_eq (tgt := 42) hx hb dX8_depth_25 (by decide) (fun c => absurd c (by decide)) (fun _ => ?_)
          refine lv_iload_n hx hb dX8_depth_28 rfl (lv_at hl 1 rfl) ?_
          refine lv_aload_n hx hb dX8_depth_29 rfl (lv_at hl 3 rfl) ?_
          refine va_get (D := D) (cl := vwCl) (ci := 8) (v := .ref (ad 10)) (C := RX8) (T := TX8) (N := 13) hx hb hts in_X8_depth_X8 hown hK hP 0 (wl_at (by decide) e7) rfl 6 (by decide) (hts (.fieldLink RX8 44 "EightReasons" "loom" "LEightReasons$Loom;") (List.mem_of_getElem? (i := 3) rfl)) (fun _ h9 => h9) rfl dX8_depth_30 ?_
          obtain ⟨x18, t19, x21, x22, e23, h20⟩ := (show okX2 ad 10 (f 10) from hT.1 10 (by decide))
          refine va_get (D := D) (cl := vwCl) (ci := 2) (v := .ref (ad 13)) (C := RX2) (T := TX2) (N := 10) hx hb hts in_X8_depth_X2 hown hK hP 10 (wl_at (by decide) e23) rfl 3 (by decide) (hts (.fieldLink RX8 287 "EightReasons$Loom" "round" "[I") (List.mem_of_getElem? (i := 4) rfl)) (fun _ h9 => h9) rfl dX8_depth_33 ?_
          refine lv_iload_n hx hb dX8_depth_36 rfl (lv_at hl 0 rfl) ?_
          obtain ⟨g25, e24⟩ := (show okI cy 10 (f 13) from hT.1 13 (by decide))
          refine va_iald hx hb hK hP 13 0 (wl_at (by decide) e24) rfl (vp_in_iff.mpr ⟨by omega, by omega⟩) dX8_depth_37 ?_
          refine lv_topi (fun x26 ex26 => ?_)
          refine va_mmax hx hb (hml.trans hl.1.symm) hown (hts (.methodLink RX8 282 Lib.Math.max.name) (List.mem_of_getElem? (i := 5) rfl)) (hts (.static Lib.Math.max.name) (List.mem_of_getElem? (i := 6) rfl)) (hts (.initialized "java/lang/Math") (List.mem_of_getElem? (i := 7) rfl)) (hts (.code Lib.Math.max.name Lib.Math.max.code 2 (some .int)) (List.mem_of_getElem? (i := 8) rfl)) (Nat.le_of_ble_eq_true rfl) (Nat.le_of_ble_eq_true rfl) (Nat.le_of_ble_eq_true rfl) (Nat.le_of_ble_eq_true rfl) dX8_depth_38 ?_
          refine lv_topi (fun x27 ex27 => ?_)
          have hx27 := r_max ex27
          refine lv_istore_n (lv' := [(2, .int x27), (3, .int v9_l3), (1, .int v9_l1), (0, .ref (ad 0))]) hx hb dX8_depth_41 rfl hl (by decide) rfl (fun ls hl => ?_)
          exact j42 f H locs ls x27 (by omega) (by omega) hT hP hD hS (lv_sub hl [0, 1, 2, 3] rfl)
        · refine lv_if_eq (tgt := 42) hx hb dX8_depth_25 (by decide) (fun _ => ?_) (fun c => absurd (by decide) c)
          exact j42 f H locs ls v9_l2 (by omega) (by omega) hT hP hD hS (lv_sub hl [1, 0, 2, 3] rfl)
  refine lv_aload_n hx hb dX8_depth_0 rfl (lv_at hl 0 rfl) ?_
  obtain ⟨t28, x30, x31, e33, h29, h32⟩ := (show okX8 ad tx 0 (f 0) from hT.1 0 (by decide))
  refine tVI (As := []) (rest := []) (i := 0) ⟨hx, hb, hml, hown, hts⟩ hK hE hP hD hS hA hAB (s_X8_standingNow_0 l B0 adK adV D cy ad fr0 tx rby rnx f hT _) (cwV 0 hts gX8_depth_X8_standingNow rfl rfl rfl (by decide +kernel) ⟨Nat.le_of_ble_eq_true rfl, Nat.le_of_ble_eq_true rfl⟩) (by decide) 8 e33 rfl rfl hl.1 rfl (Nat.le_of_ble_eq_true rfl) dX8_depth_1 ⟨Nat.le_of_ble_eq_true rfl, Nat.le_of_ble_eq_true rfl⟩ (fun r f H locs hw hP hD hS => ?_)
  obtain ⟨hrs, hT⟩ := hw
  obtain ⟨x34, rfl⟩ : ∃ q, q = r := ⟨_, rfl⟩
  have h35 := hrs
  refine lv_istore_n (lv' := [(1, .int x34), (0, .ref (ad 0))]) hx hb dX8_depth_4 rfl hl (by decide) rfl (fun ls hl => ?_)
  refine lv_iconst (v := (-1)) hx hb dX8_depth_5 (by decide) ?_
  refine lv_istore_n (lv' := [(2, .int (-1)), (1, .int x34), (0, .ref (ad 0))]) hx hb dX8_depth_6 rfl hl (by decide) rfl (fun ls hl => ?_)
  refine lv_iconst (v := 0) hx hb dX8_depth_7 (by decide) ?_
  refine lv_istore_n (lv' := [(3, .int 0), (2, .int (-1)), (1, .int x34), (0, .ref (ad 0))]) hx hb dX8_depth_8 rfl hl (by decide) rfl (fun ls hl => ?_)
  have ttl_0 := tl_0
  have ttl_m1 := tl_m1
  exact j9 (Int.toNat (11 - (0 : Int32).toInt)) f H locs ls (0 : Int32) ((-1) : Int32) x34 (by omega) (by omega) (by omega) hT hP hD hS (lv_sub hl [0, 1, 2, 3] rfl)
set_option maxHeartbeats 4000000 in
set_option maxRecDepth 100000 in
theorem s_X8_weakest_0 (l : Launch) (B0 : Nat) (adK adV : Nat → Nat) (D : va_G) (cy : Nat → ClassId) (ad : Nat → Nat) (fr0 : Nat → va_E) (tx : Int32) (rby : Int32) (rnx : Int32) (f : Nat → va_E) (hT : TYx ad cy fr0 tx rby rnx f) (sz : Nat) : TtI l yX8_weakest wsX8_weakest 4 102 [.ref (ad 0)] B0 adK adV D cy ad f sz (fun (r : Int32) (g : Nat → va_E) => (-1 ≤ r.toInt ∧ r.toInt ≤ 11) ∧ (TYx ad cy fr0 tx rby rnx g)) := by
  refine TtI.of (cc := cX8_weakest) (maxL := 4) (ty := .int) (own := RX8) (by decide) rfl (Nat.le_of_ble_eq_true rfl) rfl ?_
  intro p e s m below meth c A ls hx hb hr hml hts hown hlk hK hE hP hD hS hA hAB hl
  have hl : lv_has ls 4 [(0, .ref (ad 0))] := hl
  refine st0 (fun H locs hP hS => ?_) hP hS
  have j26 : ∀ (N : Nat) (f : Nat → va_E) (H : Heap) (locs : List Loc) (ls : Array Slot) (v26_l3 : Int32) (v26_l2 : Int32) (v26_l1 : Int32), (13 - v26_l3.toInt ≤ (N : Int)) → (0 ≤ v26_l3.toInt ∧ v26_l3.toInt ≤ 12) → (-1 ≤ v26_l1.toInt ∧ v26_l1.toInt ≤ 11) → (TYx ad cy fr0 tx rby rnx f) → (va_P D vwCl (wl ad f) H) → (va_D A (wl ad f)) → (va_S A s.heap H locs) → (lv_has ls 4 [(3, .int v26_l3), (2, .int v26_l2), (1, .int v26_l1), (0, .ref (ad 0))]) → W p l e (rmO 4 102 0 0) s m ([.ref (ad 0)] : List Value).toArray below meth c H locs 0 0 (MQ below (va_Qi (fun (r : Int32) (g : Nat → va_E) => (-1 ≤ r.toInt ∧ r.toInt ≤ 11) ∧ (TYx ad cy fr0 tx rby rnx g)) (fun g t => PstT D ad g t) A) ([.ref (ad 0)] : List Value).toArray s 0 0 A) (F0 m 26 ls []) := by
    intro N
    induction N with
    | zero => intro f H locs ls v26_l3 v26_l2 v26_l1 hN hv26_l3 hv26_l1 hT hP hD hS hl; exact absurd hN (by omega)
    | succ N ih26 =>
      intro f H locs ls v26_l3 v26_l2 v26_l1 hN hv26_l3 hv26_l1 hT hP hD hS hl
      have j70 : ∀ (f : Nat → va_E) (H : Heap) (locs : List Loc) (ls : Array Slot) (v70_l2 : Int32) (v70_l1 : Int32), (0 ≤ v26_l3.toInt ∧ v26_l3.toInt ≤ 11) → (-1 ≤ v70_l1.toInt ∧ v70_l1.toInt ≤ 11) → (TYx ad cy fr0 tx rby rnx f) → (va_P D vwCl (wl ad f) H) → (va_D A (wl ad f)) → (va_S A s.heap H locs) → (lv_has ls 4 [(3, .int v26_l3), (2, .int v70_l2), (1, .int v70_l1), (0, .ref (ad 0))]) → W p l e (rmO 4 102 0 0) s m ([.ref (ad 0)] : List Value).toArray below meth c H locs 0 0 (MQ below (va_Qi (fun (r : Int32) (g : Nat → va_E) => (-1 ≤ r.toInt ∧ r.toInt ≤ 11) ∧ (TYx ad cy fr0 tx rby rnx g)) (fun g t => PstT D ad g t) A) ([.ref (ad 0)] : List Value).toArray s 0 0 A) (F0 m 70 ls []) := by
        intro f H locs ls v70_l2 v70_l1 hv70_l3 hv70_l1 hT hP hD hS hl
        obtain ⟨x1, ex1⟩ : ∃ q : Int32, q = v26_l3 + Int32.ofInt (1) := ⟨_, rfl⟩
        refine lv_iinc (v := x1) (lv' := [(3, .int x1), (2, .int v70_l2), (1, .int v70_l1), (0, .ref (ad 0))]) hx hb dX8_weakest_70 hl (k := 0) rfl ex1.symm (by decide) rfl (fun ls hl => ?_)
        have hx1 := r_inc ex1 (by decide) (by omega) (by omega)
        refine lv_goto (tgt := 26) hx hb dX8_weakest_73 (by decide) ?_
        exact ih26 f H locs ls x1 v70_l2 v70_l1 (by omega) (by omega) (by omega) hT hP hD hS (lv_sub hl [0, 1, 2, 3] rfl)
      refine lv_iload_n hx hb dX8_weakest_26 rfl (lv_at hl 0 rfl) ?_
      refine lv_aload_n hx hb dX8_weakest_27 rfl (lv_at hl 3 rfl) ?_
      obtain ⟨t2, x4, x5, e7, h3, h6⟩ := (show okX8 ad tx 0 (f 0) from hT.1 0 (by decide))
      refine va_get (D := D) (cl := vwCl) (ci := 8) (v := .ref (ad t2)) (C := RX8) (T := TX8) (N := 13) hx hb hts in_X8_weakest_X8 hown hK hP 0 (wl_at (by decide) e7) rfl 1 (by decide) (hts (.fieldLink RX8 19 "EightReasons" "told" "LEightReasons$Suit;") (List.mem_of_getElem? (i := 3) rfl)) (fun _ h9 => h9) rfl dX8_weakest_28 ?_
      obtain ⟨x8, x10, x11, x13, x14, e15, h9, h12⟩ := (ty_suit hT h3)
      refine va_get (D := D) (cl := vwCl) (ci := 5) (v := .int x11) (C := RX5) (T := TX5) (N := 12) hx hb hts in_X8_weakest_X5 hown hK hP t2 (wl_at (x_lt (x_suit0 h3)) e15) rfl 2 (by decide) (hts (.fieldLink RX8 157 "EightReasons$Suit" "strands" "I") (List.mem_of_getElem? (i := 4) rfl)) (fun _ h9 => h9) rfl dX8_weakest_31 ?_
      refine lv_icmp_ge (tgt := 76) hx hb dX8_weakest_34 (by decide) (fun c16 => ?_) (fun c16 => ?_)
      · have kc16 := c_le c16
        refine lv_iload_n hx hb dX8_weakest_76 rfl (lv_at hl 2 rfl) ?_
        exact tI hx hb hr hlk rfl hP hS ⟨(by omega), hT⟩ dX8_weakest_77
      · have kc16 := c_nle c16
        refine lv_aload_n hx hb dX8_weakest_37 rfl (lv_at hl 3 rfl) ?_
        refine lv_iload_n hx hb dX8_weakest_38 rfl (lv_at hl 0 rfl) ?_
        refine tVI (As := [.int v26_l3]) (rest := []) (i := 0) ⟨hx, hb, hml, hown, hts⟩ hK hE hP hD hS hA hAB (s_X8_isTied_0 l B0 adK adV D cy ad fr0 tx rby rnx f hT v26_l3 _) (cwV 1 hts gX8_weakest_X8_isTied rfl rfl rfl (by decide +kernel) ⟨Nat.le_of_ble_eq_true rfl, Nat.le_of_ble_eq_true rfl⟩) (by decide) 8 e7 rfl rfl hl.1 rfl (Nat.le_of_ble_eq_true rfl) dX8_weakest_39 ⟨Nat.le_of_ble_eq_true rfl, Nat.le_of_ble_eq_true rfl⟩ (fun r g H locs hw hP hD hS => ?_)
        obtain ⟨hrs, rfl⟩ := hw
        obtain ⟨x17, rfl⟩ : ∃ q, q = r := ⟨_, rfl⟩
        rcases hrs with ⟨rfl, h18, h19⟩ | rfl
        · refine lv_if_eq (tgt := 70) hx hb dX8_weakest_42 (by decide) (fun c => absurd c (by decide)) (fun _ => ?_)
          refine lv_aload_n hx hb dX8_weakest_45 rfl (lv_at hl 3 rfl) ?_
          refine va_get (D := D) (cl := vwCl) (ci := 8) (v := .ref (ad 10)) (C := RX8) (T := TX8) (N := 13) hx hb hts in_X8_weakest_X8 hown hK hP 0 (wl_at (by decide) e7) rfl 6 (by decide) (hts (.fieldLink RX8 44 "EightReasons" "loom" "LEightReasons$Loom;") (List.mem_of_getElem? (i := 1) rfl)) (fun _ h9 => h9) rfl dX8_weakest_46 ?_
          obtain ⟨x20, t21, x23, x24, e25, h22⟩ := (show okX2 ad 10 (f 10) from hT.1 10 (by decide))
          refine va_get (D := D) (cl := vwCl) (ci := 2) (v := .ref (ad 11)) (C := RX2) (T := TX2) (N := 10) hx hb hts in_X8_weakest_X2 hown hK hP 10 (wl_at (by decide) e25) rfl 1 (by decide) (hts (.fieldLink RX8 154 "EightReasons$Loom" "load" "[I") (List.mem_of_getElem? (i := 5) rfl)) (fun _ h9 => h9) rfl dX8_weakest_49 ?_
          refine lv_iload_n hx hb dX8_weakest_52 rfl (lv_at hl 0 rfl) ?_
          obtain ⟨g27, e26⟩ := (show okI cy 12 (f 11) from hT.1 11 (by decide))
          refine va_iald hx hb hK hP 11 0 (wl_at (by decide) e26) rfl (vp_in_iff.mpr ⟨by omega, by omega⟩) dX8_weakest_53 ?_
          refine lv_topi (fun x28 ex28 => ?_)
          refine lv_iload_n hx hb dX8_weakest_54 rfl (lv_at hl 1 rfl) ?_
          refine lv_icmp_ge (tgt := 70) hx hb dX8_weakest_55 (by decide) (fun c29 => ?_) (fun c29 => ?_)
          · have kc29 := c_le c29
            exact j70 f H locs ls v26_l2 v26_l1 (by omega) (by omega) hT hP hD hS (lv_sub hl [0, 1, 2, 3] rfl)
          · have kc29 := c_nle c29
            refine lv_iload_n hx hb dX8_weakest_58 rfl (lv_at hl 0 rfl) ?_
            refine lv_istore_n (lv' := [(1, .int v26_l3), (3, .int v26_l3), (2, .int v26_l2), (0, .ref (ad 0))]) hx hb dX8_weakest_59 rfl hl (by decide) rfl (fun ls hl => ?_)
            refine lv_aload_n hx hb dX8_weakest_60 rfl (lv_at hl 3 rfl) ?_
            refine va_get (D := D) (cl := vwCl) (ci := 8) (v := .ref (ad 10)) (C := RX8) (T := TX8) (N := 13) hx hb hts in_X8_weakest_X8 hown hK hP 0 (wl_at (by decide) e7) rfl 6 (by decide) (hts (.fieldLink RX8 44 "EightReasons" "loom" "LEightReasons$Loom;") (List.mem_of_getElem? (i := 1) rfl)) (fun _ h9 => h9) rfl dX8_weakest_61 ?_
            refine va_get (D := D) (cl := vwCl) (ci := 2) (v := .ref (ad 11)) (C := RX2) (T := TX2) (N := 10) hx hb hts in_X8_weakest_X2 hown hK hP 10 (wl_at (by decide) e25) rfl 1 (by decide) (hts (.fieldLink RX8 154 "EightReasons$Loom" "load" "[I") (List.mem_of_getElem? (i := 5) rfl)) (fun _ h9 => h9) rfl dX8_weakest_64 ?_
            refine lv_iload_n hx hb dX8_weakest_67 rfl (lv_at hl 1 rfl) ?_
            refine va_iald hx hb hK hP 11 0 (wl_at (by decide) e26) rfl (vp_in_iff.mpr ⟨by omega, by omega⟩) dX8_weakest_68 ?_
            refine lv_topi (fun x30 ex30 => ?_)
            refine lv_istore_n (lv' := [(2, .int x30), (1, .int v26_l3), (3, .int v26_l3), (0, .ref (ad 0))]) hx hb dX8_weakest_69 rfl hl (by decide) rfl (fun ls hl => ?_)
            exact j70 f H locs ls x30 v26_l3 (by omega) (by omega) hT hP hD hS (lv_sub hl [2, 0, 1, 3] rfl)
        · refine lv_if_eq (tgt := 70) hx hb dX8_weakest_42 (by decide) (fun _ => ?_) (fun c => absurd (by decide) c)
          exact j70 f H locs ls v26_l2 v26_l1 (by omega) (by omega) hT hP hD hS (lv_sub hl [0, 1, 2, 3] rfl)
  refine lv_aload_n hx hb dX8_weakest_0 rfl (lv_at hl 0 rfl) ?_
  obtain ⟨t31, x33, x34, e36, h32, h35⟩ := (show okX8 ad tx 0 (f 0) from hT.1 0 (by decide))
  refine tVV (As := []) (rest := []) (i := 0) ⟨hx, hb, hml, hown, hts⟩ hK hE hP hD hS hA hAB (s_X8_look_0 l B0 adK adV D cy ad fr0 tx rby rnx f hT _) (cwV 0 hts gX8_weakest_X8_look rfl rfl rfl (by decide +kernel) ⟨Nat.le_of_ble_eq_true rfl, Nat.le_of_ble_eq_true rfl⟩) (by decide) 8 e36 rfl rfl hl.1 rfl (Nat.le_of_ble_eq_true rfl) dX8_weakest_1 ⟨Nat.le_of_ble_eq_true rfl, Nat.le_of_ble_eq_true rfl⟩ (fun f H locs hw hP hD hS => ?_)
  obtain ⟨hrs, hT⟩ := hw
  refine lv_aload_n hx hb dX8_weakest_4 rfl (lv_at hl 0 rfl) ?_
  obtain ⟨t37, x39, x40, e42, h38, h41⟩ := (show okX8 ad tx 0 (f 0) from hT.1 0 (by decide))
  refine va_get (D := D) (cl := vwCl) (ci := 8) (v := .ref (ad 10)) (C := RX8) (T := TX8) (N := 13) hx hb hts in_X8_weakest_X8 hown hK hP 0 (wl_at (by decide) e42) rfl 6 (by decide) (hts (.fieldLink RX8 44 "EightReasons" "loom" "LEightReasons$Loom;") (List.mem_of_getElem? (i := 1) rfl)) (fun _ h9 => h9) rfl dX8_weakest_5 ?_
  refine lv_aload_n hx hb dX8_weakest_8 rfl (lv_at hl 0 rfl) ?_
  refine tVR (As := []) (rest := [.ref (ad 10)]) (i := 0) ⟨hx, hb, hml, hown, hts⟩ hK hE hP hD hS hA hAB (s_X8_now_0 l B0 adK adV D cy ad fr0 tx rby rnx f hT _) (cwV 0 hts gX8_weakest_X8_now rfl rfl rfl (by decide +kernel) ⟨Nat.le_of_ble_eq_true rfl, Nat.le_of_ble_eq_true rfl⟩) (by decide) 8 e42 rfl rfl hl.1 rfl (Nat.le_of_ble_eq_true rfl) dX8_weakest_9 ⟨Nat.le_of_ble_eq_true rfl, Nat.le_of_ble_eq_true rfl⟩ (fun ra g H locs hw hra hP hD hS => ?_)
  obtain ⟨hrs, rfl⟩ := hw
  obtain ⟨t43, h44, rfl⟩ := hra
  obtain ⟨x45, x47, x48, x49, e50, h46⟩ := (ty_state hT h44)
  refine va_get (D := D) (cl := vwCl) (ci := 4) (v := .int x45) (C := RX4) (T := TX4) (N := 5) hx hb hts in_X8_weakest_X4 hown hK hP t43 (wl_at (x_lt (x_state0 h44)) e50) rfl 1 (by decide) (hts (.fieldLink RX8 145 "EightReasons$State" "tied" "I") (List.mem_of_getElem? (i := 2) rfl)) (fun _ h9 => h9) rfl dX8_weakest_12 ?_
  obtain ⟨x51, t52, x54, x55, e56, h53⟩ := (show okX2 ad 10 (f 10) from hT.1 10 (by decide))
  refine tVV (As := [.int x45]) (rest := []) (i := 10) ⟨hx, hb, hml, hown, hts⟩ hK hE hP hD hS hA hAB (s_X2_weigh_0 l B0 adK adV D cy ad fr0 tx rby rnx f hT x45 _) (cwV 1 hts gX8_weakest_X2_weigh rfl rfl rfl (by decide +kernel) ⟨Nat.le_of_ble_eq_true rfl, Nat.le_of_ble_eq_true rfl⟩) (by decide) 2 e56 rfl rfl hl.1 rfl (Nat.le_of_ble_eq_true rfl) dX8_weakest_15 ⟨Nat.le_of_ble_eq_true rfl, Nat.le_of_ble_eq_true rfl⟩ (fun f H locs hw hP hD hS => ?_)
  obtain ⟨hrs, hT⟩ := hw
  refine lv_iconst (v := (-1)) hx hb dX8_weakest_18 (by decide) ?_
  refine lv_istore_n (lv' := [(1, .int (-1)), (0, .ref (ad 0))]) hx hb dX8_weakest_19 rfl hl (by decide) rfl (fun ls hl => ?_)
  refine lv_sipush (v := 1000) hx hb dX8_weakest_20 (by decide) ?_
  refine lv_istore_n (lv' := [(2, .int 1000), (1, .int (-1)), (0, .ref (ad 0))]) hx hb dX8_weakest_23 rfl hl (by decide) rfl (fun ls hl => ?_)
  refine lv_iconst (v := 0) hx hb dX8_weakest_24 (by decide) ?_
  refine lv_istore_n (lv' := [(3, .int 0), (2, .int 1000), (1, .int (-1)), (0, .ref (ad 0))]) hx hb dX8_weakest_25 rfl hl (by decide) rfl (fun ls hl => ?_)
  have ttl_0 := tl_0
  have ttl_1000 := tl_1000
  have ttl_m1 := tl_m1
  exact j26 (Int.toNat (13 - (0 : Int32).toInt)) f H locs ls (0 : Int32) (1000 : Int32) ((-1) : Int32) (by omega) (by omega) (by omega) hT hP hD hS (lv_sub hl [0, 1, 2, 3] rfl)
set_option maxHeartbeats 4000000 in
set_option maxRecDepth 100000 in
theorem s_X8_lies_0 (l : Launch) (B0 : Nat) (adK adV : Nat → Nat) (D : va_G) (cy : Nat → ClassId) (ad : Nat → Nat) (fr0 : Nat → va_E) (tx : Int32) (rby : Int32) (rnx : Int32) (f : Nat → va_E) (hT : TYx ad cy fr0 tx rby rnx f) (p1 : Int32) (sz : Nat) : TtI l yX8_lies wsX8_lies 0 0 [.ref (ad 0), .int p1] B0 adK adV D cy ad f sz (fun (r : Int32) (g : Nat → va_E) => True ∧ (f = g)) := by
  refine TtI.of (cc := cX8_lies) (maxL := 2) (ty := .int) (own := RX8) (by decide) rfl (Nat.le_of_ble_eq_true rfl) rfl ?_
  intro p e s m below meth c A ls hx hb hr hml hts hown hlk hK hE hP hD hS hA hAB hl
  have hl : lv_has ls 2 [(0, .ref (ad 0)), (1, .int p1)] := hl
  refine st0 (fun H locs hP hS => ?_) hP hS
  refine lv_iload_n hx hb dX8_lies_0 rfl (lv_at hl 1 rfl) ?_
  have ttl_0 := tl_0
  refine lv_if_lt (tgt := 21) hx hb dX8_lies_1 (by decide) (fun c1 => ?_) (fun c1 => ?_)
  · have kc1 := c_lt c1
    refine lv_iconst (v := (-1)) hx hb dX8_lies_21 (by decide) ?_
    have ttl_m1 := tl_m1
    exact tI hx hb hr hlk rfl hP hS ⟨trivial, rfl⟩ dX8_lies_22
  · have kc1 := c_nlt c1
    refine lv_iload_n hx hb dX8_lies_4 rfl (lv_at hl 1 rfl) ?_
    refine lv_aload_n hx hb dX8_lies_5 rfl (lv_at hl 0 rfl) ?_
    obtain ⟨t2, x4, x5, e7, h3, h6⟩ := (show okX8 ad tx 0 (f 0) from hT.1 0 (by decide))
    refine va_get (D := D) (cl := vwCl) (ci := 8) (v := .int x5) (C := RX8) (T := TX8) (N := 13) hx hb hts in_X8_lies_X8 hown hK hP 0 (wl_at (by decide) e7) rfl 9 (by decide) (hts (.fieldLink RX8 102 "EightReasons" "lyingCount" "I") (List.mem_of_getElem? (i := 1) rfl)) (fun _ h9 => h9) rfl dX8_lies_6 ?_
    refine lv_icmp_ge (tgt := 21) hx hb dX8_lies_9 (by decide) (fun c8 => ?_) (fun c8 => ?_)
    · have kc8 := c_le c8
      refine lv_iconst (v := (-1)) hx hb dX8_lies_21 (by decide) ?_
      have ttl_m1 := tl_m1
      exact tI hx hb hr hlk rfl hP hS ⟨trivial, rfl⟩ dX8_lies_22
    · have kc8 := c_nle c8
      refine lv_aload_n hx hb dX8_lies_12 rfl (lv_at hl 0 rfl) ?_
      refine va_get (D := D) (cl := vwCl) (ci := 8) (v := .ref (ad 18)) (C := RX8) (T := TX8) (N := 13) hx hb hts in_X8_lies_X8 hown hK hP 0 (wl_at (by decide) e7) rfl 8 (by decide) (hts (.fieldLink RX8 52 "EightReasons" "lying" "[I") (List.mem_of_getElem? (i := 2) rfl)) (fun _ h9 => h9) rfl dX8_lies_13 ?_
      refine lv_iload_n hx hb dX8_lies_16 rfl (lv_at hl 1 rfl) ?_
      obtain ⟨g10, e9⟩ := (show okI cy 10 (f 18) from hT.1 18 (by decide))
      refine va_iald hx hb hK hP 18 0 (wl_at (by decide) e9) rfl (vp_in_iff.mpr ⟨by omega, by omega⟩) dX8_lies_17 ?_
      refine lv_topi (fun x11 ex11 => ?_)
      refine lv_goto (tgt := 22) hx hb dX8_lies_18 (by decide) ?_
      exact tI hx hb hr hlk rfl hP hS ⟨trivial, rfl⟩ dX8_lies_22
set_option maxHeartbeats 4000000 in
set_option maxRecDepth 100000 in
theorem s_X8_commonDivisor_0 (l : Launch) (B0 : Nat) (adK adV : Nat → Nat) (D : va_G) (cy : Nat → ClassId) (ad : Nat → Nat) (f : Nat → va_E) (p0 : Int32) (p1 : Int32) (sz : Nat) : TtI l yX8_commonDivisor wsX8_commonDivisor 1 40 [.int p0, .int p1] B0 adK adV D cy ad f sz (fun (r : Int32) (g : Nat → va_E) => (1 ≤ r.toInt) ∧ (f = g)) := by
  refine TtI.of (cc := cX8_commonDivisor) (maxL := 6) (ty := .int) (own := RX8) (by decide) rfl (Nat.le_of_ble_eq_true rfl) rfl ?_
  intro p e s m below meth c A ls hx hb hr hml hts hown hlk hK hE hP hD hS hA hAB hl
  have hl : lv_has ls 6 [(0, .int p0), (1, .int p1)] := hl
  refine st0 (fun H locs hP hS => ?_) hP hS
  have j34 : ∀ (H : Heap) (locs : List Loc) (ls : Array Slot) (v34_l4 : Int32) (v34_l3 : Int32) (v34_l2 : Int32), (0 ≤ v34_l4.toInt ∧ v34_l4.toInt ≤ 78) → (va_P D vwCl (wl ad f) H) → (va_D A (wl ad f)) → (va_S A s.heap H locs) → (lv_has ls 6 [(4, .int v34_l4), (3, .int v34_l3), (2, .int v34_l2), (0, .int p0), (1, .int p1)]) → W p l e (rmO 1 40 0 0) s m ([.int p0, .int p1] : List Value).toArray below meth c H locs 0 0 (MQ below (va_Qi (fun (r : Int32) (g : Nat → va_E) => (1 ≤ r.toInt) ∧ (f = g)) (fun g t => PstT D ad g t) A) ([.int p0, .int p1] : List Value).toArray s 0 0 A) (F0 m 34 ls []) := by
    intro H locs ls v34_l4 v34_l3 v34_l2 hv34_l4 hP hD hS hl
    refine lv_iconst (v := 1) hx hb dX8_commonDivisor_34 (by decide) ?_
    refine lv_iload_n hx hb dX8_commonDivisor_35 rfl (lv_at hl 2 rfl) ?_
    have ttl_1 := tl_1
    refine va_mmax hx hb (hml.trans hl.1.symm) hown (hts (.methodLink RX8 282 Lib.Math.max.name) (List.mem_of_getElem? (i := 1) rfl)) (hts (.static Lib.Math.max.name) (List.mem_of_getElem? (i := 2) rfl)) (hts (.initialized "java/lang/Math") (List.mem_of_getElem? (i := 3) rfl)) (hts (.code Lib.Math.max.name Lib.Math.max.code 2 (some .int)) (List.mem_of_getElem? (i := 4) rfl)) (Nat.le_of_ble_eq_true rfl) (Nat.le_of_ble_eq_true rfl) (Nat.le_of_ble_eq_true rfl) (Nat.le_of_ble_eq_true rfl) dX8_commonDivisor_36 ?_
    refine lv_topi (fun x1 ex1 => ?_)
    have hx1 := r_max ex1
    exact tI hx hb hr hlk rfl hP hS ⟨(by omega), rfl⟩ dX8_commonDivisor_39
  have j7 : ∀ (N : Nat) (H : Heap) (locs : List Loc) (ls : Array Slot) (v7_l4 : Int32) (v7_l3 : Int32) (v7_l2 : Int32), (79 - v7_l4.toInt ≤ (N : Int)) → (0 ≤ v7_l4.toInt ∧ v7_l4.toInt ≤ 78) → (va_P D vwCl (wl ad f) H) → (va_D A (wl ad f)) → (va_S A s.heap H locs) → (lv_has ls 6 [(4, .int v7_l4), (3, .int v7_l3), (2, .int v7_l2), (0, .int p0), (1, .int p1)]) → W p l e (rmO 1 40 0 0) s m ([.int p0, .int p1] : List Value).toArray below meth c H locs 0 0 (MQ below (va_Qi (fun (r : Int32) (g : Nat → va_E) => (1 ≤ r.toInt) ∧ (f = g)) (fun g t => PstT D ad g t) A) ([.int p0, .int p1] : List Value).toArray s 0 0 A) (F0 m 7 ls []) := by
    intro N
    induction N with
    | zero => intro H locs ls v7_l4 v7_l3 v7_l2 hN hv7_l4 hP hD hS hl; exact absurd hN (by omega)
    | succ N ih7 =>
      intro H locs ls v7_l4 v7_l3 v7_l2 hN hv7_l4 hP hD hS hl
      refine lv_iload hx hb dX8_commonDivisor_7 (lv_at hl 0 rfl) ?_
      refine lv_bipush (v := 64) hx hb dX8_commonDivisor_9 (by decide) ?_
      have ttl_64 := tl_64
      refine lv_icmp_ge (tgt := 34) hx hb dX8_commonDivisor_11 (by decide) (fun c2 => ?_) (fun c2 => ?_)
      · have kc2 := c_le c2
        exact j34 H locs ls v7_l4 v7_l3 v7_l2 (by omega) hP hD hS (lv_sub hl [0, 1, 2, 3, 4] rfl)
      · have kc2 := c_nle c2
        refine lv_iload_n hx hb dX8_commonDivisor_14 rfl (lv_at hl 1 rfl) ?_
        have ttl_0 := tl_0
        refine lv_if_eq (tgt := 34) hx hb dX8_commonDivisor_15 (by decide) (fun c3 => ?_) (fun c3 => ?_)
        · have kc3 := c_eq c3
          exact j34 H locs ls v7_l4 v7_l3 v7_l2 (by omega) hP hD hS (lv_sub hl [0, 1, 2, 3, 4] rfl)
        · have kc3 := c_ne c3
          refine lv_iload_n hx hb dX8_commonDivisor_18 rfl (lv_at hl 2 rfl) ?_
          refine lv_iload_n hx hb dX8_commonDivisor_19 rfl (lv_at hl 1 rfl) ?_
          refine lv_irem hx hb dX8_commonDivisor_20 (ne0 (by omega)) ?_
          refine lv_topi (fun x4 ex4 => ?_)
          refine lv_istore (lv' := [(5, .int x4), (4, .int v7_l4), (3, .int v7_l3), (2, .int v7_l2), (0, .int p0), (1, .int p1)]) hx hb dX8_commonDivisor_21 hl (by decide) rfl (fun ls hl => ?_)
          refine lv_iload_n hx hb dX8_commonDivisor_23 rfl (lv_at hl 2 rfl) ?_
          refine lv_istore_n (lv' := [(2, .int v7_l3), (5, .int x4), (4, .int v7_l4), (3, .int v7_l3), (0, .int p0), (1, .int p1)]) hx hb dX8_commonDivisor_24 rfl hl (by decide) rfl (fun ls hl => ?_)
          refine lv_iload hx hb dX8_commonDivisor_25 (lv_at hl 1 rfl) ?_
          refine lv_istore_n (lv' := [(3, .int x4), (2, .int v7_l3), (5, .int x4), (4, .int v7_l4), (0, .int p0), (1, .int p1)]) hx hb dX8_commonDivisor_27 rfl hl (by decide) rfl (fun ls hl => ?_)
          obtain ⟨x5, ex5⟩ : ∃ q : Int32, q = v7_l4 + Int32.ofInt (1) := ⟨_, rfl⟩
          refine lv_iinc (v := x5) (lv' := [(4, .int x5), (3, .int x4), (2, .int v7_l3), (5, .int x4), (0, .int p0), (1, .int p1)]) hx hb dX8_commonDivisor_28 hl (k := 3) rfl ex5.symm (by decide) rfl (fun ls hl => ?_)
          have hx5 := r_inc ex5 (by decide) (by omega) (by omega)
          refine lv_goto (tgt := 7) hx hb dX8_commonDivisor_31 (by decide) ?_
          exact ih7 H locs ls x5 x4 v7_l3 (by omega) (by omega) hP hD hS (lv_sub hl [0, 1, 2, 4, 5] rfl)
  refine lv_iload_n hx hb dX8_commonDivisor_0 rfl (lv_at hl 0 rfl) ?_
  refine lv_istore_n (lv' := [(2, .int p0), (0, .int p0), (1, .int p1)]) hx hb dX8_commonDivisor_1 rfl hl (by decide) rfl (fun ls hl => ?_)
  refine lv_iload_n hx hb dX8_commonDivisor_2 rfl (lv_at hl 2 rfl) ?_
  refine lv_istore_n (lv' := [(3, .int p1), (2, .int p0), (0, .int p0), (1, .int p1)]) hx hb dX8_commonDivisor_3 rfl hl (by decide) rfl (fun ls hl => ?_)
  refine lv_iconst (v := 0) hx hb dX8_commonDivisor_4 (by decide) ?_
  refine lv_istore (lv' := [(4, .int 0), (3, .int p1), (2, .int p0), (0, .int p0), (1, .int p1)]) hx hb dX8_commonDivisor_5 hl (by decide) rfl (fun ls hl => ?_)
  have ttl_0 := tl_0
  exact j7 (Int.toNat (79 - (0 : Int32).toInt)) H locs ls (0 : Int32) p1 p0 (by omega) (by omega) hP hD hS (lv_sub hl [0, 1, 2, 3, 4] rfl)
set_option maxHeartbeats 4000000 in
set_option maxRecDepth 100000 in
theorem s_X8_odds_0 (l : Launch) (B0 : Nat) (adK adV : Nat → Nat) (D : va_G) (cy : Nat → ClassId) (ad : Nat → Nat) (fr0 : Nat → va_E) (tx : Int32) (rby : Int32) (rnx : Int32) (f : Nat → va_E) (hT : TYx ad cy fr0 tx rby rnx f) (p1 : Int32) (p2 : Int32) (sz : Nat) : TtI l yX8_odds wsX8_odds 2 65 [.ref (ad 0), .int p1, .int p2] B0 adK adV D cy ad f sz (fun (r : Int32) (g : Nat → va_E) => True ∧ (f = g)) := by
  refine TtI.of (cc := cX8_odds) (maxL := 6) (ty := .int) (own := RX8) (by decide) rfl (Nat.le_of_ble_eq_true rfl) rfl ?_
  intro p e s m below meth c A ls hx hb hr hml hts hown hlk hK hE hP hD hS hA hAB hl
  have hl : lv_has ls 6 [(0, .ref (ad 0)), (1, .int p1), (2, .int p2)] := hl
  refine st0 (fun H locs hP hS => ?_) hP hS
  have j26 : ∀ (N : Nat) (H : Heap) (locs : List Loc) (ls : Array Slot) (v26_l5 : Int32) (v26_l4 : Int32) (v26_l3 : Int32), (5 - v26_l5.toInt ≤ (N : Int)) → (0 ≤ v26_l5.toInt ∧ v26_l5.toInt ≤ 4) → (0 ≤ p1.toInt ∧ p1.toInt ≤ 4) → (0 ≤ p2.toInt ∧ p2.toInt ≤ 1) → (va_P D vwCl (wl ad f) H) → (va_D A (wl ad f)) → (va_S A s.heap H locs) → (lv_has ls 6 [(5, .int v26_l5), (4, .int v26_l4), (3, .int v26_l3), (0, .ref (ad 0)), (1, .int p1), (2, .int p2)]) → W p l e (rmO 2 65 0 0) s m ([.ref (ad 0), .int p1, .int p2] : List Value).toArray below meth c H locs 0 0 (MQ below (va_Qi (fun (r : Int32) (g : Nat → va_E) => True ∧ (f = g)) (fun g t => PstT D ad g t) A) ([.ref (ad 0), .int p1, .int p2] : List Value).toArray s 0 0 A) (F0 m 26 ls []) := by
    intro N
    induction N with
    | zero => intro H locs ls v26_l5 v26_l4 v26_l3 hN hv26_l5 hv26_l1 hv26_l2 hP hD hS hl; exact absurd hN (by omega)
    | succ N ih26 =>
      intro H locs ls v26_l5 v26_l4 v26_l3 hN hv26_l5 hv26_l1 hv26_l2 hP hD hS hl
      refine lv_iload hx hb dX8_odds_26 (lv_at hl 0 rfl) ?_
      refine lv_iload_n hx hb dX8_odds_28 rfl (lv_at hl 4 rfl) ?_
      refine lv_icmp_ge (tgt := 58) hx hb dX8_odds_29 (by decide) (fun c1 => ?_) (fun c1 => ?_)
      · have kc1 := c_le c1
        refine lv_iload hx hb dX8_odds_58 (lv_at hl 1 rfl) ?_
        refine lv_iload_n hx hb dX8_odds_60 rfl (lv_at hl 2 rfl) ?_
        refine tSI (As := [.int v26_l4, .int v26_l3]) (rest := []) ⟨hx, hb, hml, hown, hts⟩ hK hE hP hD hS hA hAB (s_X8_commonDivisor_0 l B0 adK adV D cy ad f v26_l4 v26_l3 _) (va_cwS 2 hts gX8_odds_X8_commonDivisor rfl rfl rfl (by decide +kernel) ⟨Nat.le_of_ble_eq_true rfl, Nat.le_of_ble_eq_true rfl⟩) rfl hl.1 rfl (Nat.le_of_ble_eq_true rfl) dX8_odds_61 ⟨Nat.le_of_ble_eq_true rfl, Nat.le_of_ble_eq_true rfl⟩ (fun r g H locs hw hP hD hS => ?_)
        obtain ⟨hrs, rfl⟩ := hw
        obtain ⟨x2, rfl⟩ : ∃ q, q = r := ⟨_, rfl⟩
        have h3 := hrs
        refine lv_istore (lv' := [(5, .int x2), (4, .int v26_l4), (3, .int v26_l3), (0, .ref (ad 0)), (1, .int p1), (2, .int p2)]) hx hb dX8_odds_64 hl (by decide) rfl (fun ls hl => ?_)
        refine lv_iload_n hx hb dX8_odds_66 rfl (lv_at hl 5 rfl) ?_
        have ttl_0 := tl_0
        refine lv_if_ne (tgt := 74) hx hb dX8_odds_67 (by decide) (fun c4 => ?_) (fun c4 => ?_)
        · have kc4 := c_ne c4
          refine lv_iload hx hb dX8_odds_74 (lv_at hl 1 rfl) ?_
          refine lv_iload hx hb dX8_odds_76 (lv_at hl 0 rfl) ?_
          refine lv_idiv hx hb dX8_odds_78 (ne0 (by omega)) ?_
          refine lv_topi (fun x5 ex5 => ?_)
          exact tI hx hb hr hlk rfl hP hS ⟨trivial, rfl⟩ dX8_odds_79
        · have kc4 := c_eq c4
          refine lv_iload_n hx hb dX8_odds_70 rfl (lv_at hl 2 rfl) ?_
          refine lv_goto (tgt := 76) hx hb dX8_odds_71 (by decide) ?_
          refine lv_iload hx hb dX8_odds_76 (lv_at hl 0 rfl) ?_
          refine lv_idiv hx hb dX8_odds_78 (ne0 (by omega)) ?_
          refine lv_topi (fun x6 ex6 => ?_)
          exact tI hx hb hr hlk rfl hP hS ⟨trivial, rfl⟩ dX8_odds_79
      · have kc1 := c_nle c1
        refine lv_iload_n hx hb dX8_odds_32 rfl (lv_at hl 2 rfl) ?_
        refine lv_bipush (v := 100) hx hb dX8_odds_33 (by decide) ?_
        refine lv_aload_n hx hb dX8_odds_35 rfl (lv_at hl 3 rfl) ?_
        obtain ⟨t7, x9, x10, e12, h8, h11⟩ := (show okX8 ad tx 0 (f 0) from hT.1 0 (by decide))
        refine va_get (D := D) (cl := vwCl) (ci := 8) (v := .ref (ad t7)) (C := RX8) (T := TX8) (N := 13) hx hb hts in_X8_odds_X8 hown hK hP 0 (wl_at (by decide) e12) rfl 1 (by decide) (hts (.fieldLink RX8 19 "EightReasons" "told" "LEightReasons$Suit;") (List.mem_of_getElem? (i := 1) rfl)) (fun _ h9 => h9) rfl dX8_odds_36 ?_
        obtain ⟨x13, x15, x16, x18, x19, e20, h14, h17⟩ := (ty_suit hT h8)
        refine va_get (D := D) (cl := vwCl) (ci := 5) (v := .int x18) (C := RX5) (T := TX5) (N := 12) hx hb hts in_X8_odds_X5 hown hK hP t7 (wl_at (x_lt (x_suit0 h8)) e20) rfl 3 (by decide) (hts (.fieldLink RX8 184 "EightReasons$Suit" "fray" "I") (List.mem_of_getElem? (i := 2) rfl)) (fun _ h9 => h9) rfl dX8_odds_39 ?_
        refine lv_isub hx hb dX8_odds_42 ?_
        refine lv_topi (fun x21 ex21 => ?_)
        refine lv_imul hx hb dX8_odds_43 ?_
        refine lv_topi (fun x22 ex22 => ?_)
        refine lv_istore_n (lv' := [(3, .int x22), (5, .int v26_l5), (4, .int v26_l4), (0, .ref (ad 0)), (1, .int p1), (2, .int p2)]) hx hb dX8_odds_44 rfl hl (by decide) rfl (fun ls hl => ?_)
        refine lv_iload hx hb dX8_odds_45 (lv_at hl 2 rfl) ?_
        refine lv_bipush (v := 100) hx hb dX8_odds_47 (by decide) ?_
        refine lv_imul hx hb dX8_odds_49 ?_
        refine lv_topi (fun x23 ex23 => ?_)
        refine lv_istore (lv' := [(4, .int x23), (3, .int x22), (5, .int v26_l5), (0, .ref (ad 0)), (1, .int p1), (2, .int p2)]) hx hb dX8_odds_50 hl (by decide) rfl (fun ls hl => ?_)
        obtain ⟨x24, ex24⟩ : ∃ q : Int32, q = v26_l5 + Int32.ofInt (1) := ⟨_, rfl⟩
        refine lv_iinc (v := x24) (lv' := [(5, .int x24), (4, .int x23), (3, .int x22), (0, .ref (ad 0)), (1, .int p1), (2, .int p2)]) hx hb dX8_odds_52 hl (k := 2) rfl ex24.symm (by decide) rfl (fun ls hl => ?_)
        have hx24 := r_inc ex24 (by decide) (by omega) (by omega)
        refine lv_goto (tgt := 26) hx hb dX8_odds_55 (by decide) ?_
        exact ih26 H locs ls x24 x23 x22 (by omega) (by omega) (by omega) (by omega) hP hD hS (lv_sub hl [0, 1, 2, 3, 4, 5] rfl)
  refine lv_iload_n hx hb dX8_odds_0 rfl (lv_at hl 1 rfl) ?_
  have ttl_0 := tl_0
  refine lv_if_lt (tgt := 16) hx hb dX8_odds_1 (by decide) (fun c25 => ?_) (fun c25 => ?_)
  · have kc25 := c_lt c25
    refine lv_iconst (v := (-1)) hx hb dX8_odds_16 (by decide) ?_
    have ttl_m1 := tl_m1
    exact tI hx hb hr hlk rfl hP hS ⟨trivial, rfl⟩ dX8_odds_17
  · have kc25 := c_nlt c25
    refine lv_iload_n hx hb dX8_odds_4 rfl (lv_at hl 1 rfl) ?_
    refine lv_iconst (v := 4) hx hb dX8_odds_5 (by decide) ?_
    have ttl_4 := tl_4
    refine lv_icmp_gt (tgt := 16) hx hb dX8_odds_6 (by decide) (fun c26 => ?_) (fun c26 => ?_)
    · have kc26 := c_lt c26
      refine lv_iconst (v := (-1)) hx hb dX8_odds_16 (by decide) ?_
      have ttl_m1 := tl_m1
      exact tI hx hb hr hlk rfl hP hS ⟨trivial, rfl⟩ dX8_odds_17
    · have kc26 := c_nlt c26
      refine lv_iload_n hx hb dX8_odds_9 rfl (lv_at hl 2 rfl) ?_
      refine tSI (As := [.int p2]) (rest := []) ⟨hx, hb, hml, hown, hts⟩ hK hE hP hD hS hA hAB (s_X8_isZeroOrOne_0 l B0 adK adV D cy ad f p2 _) (va_cwS 1 hts gX8_odds_X8_isZeroOrOne rfl rfl rfl (by decide +kernel) ⟨Nat.le_of_ble_eq_true rfl, Nat.le_of_ble_eq_true rfl⟩) rfl hl.1 rfl (Nat.le_of_ble_eq_true rfl) dX8_odds_10 ⟨Nat.le_of_ble_eq_true rfl, Nat.le_of_ble_eq_true rfl⟩ (fun r g H locs hw hP hD hS => ?_)
      obtain ⟨hrs, rfl⟩ := hw
      obtain ⟨x27, rfl⟩ : ∃ q, q = r := ⟨_, rfl⟩
      rcases hrs with ⟨rfl, h28, h29⟩ | rfl
      · refine lv_if_ne (tgt := 18) hx hb dX8_odds_13 (by decide) (fun _ => ?_) (fun c => absurd c (by decide))
        refine lv_iconst (v := 1) hx hb dX8_odds_18 (by decide) ?_
        refine lv_istore_n (lv' := [(3, .int 1), (0, .ref (ad 0)), (1, .int p1), (2, .int p2)]) hx hb dX8_odds_19 rfl hl (by decide) rfl (fun ls hl => ?_)
        refine lv_iconst (v := 1) hx hb dX8_odds_20 (by decide) ?_
        refine lv_istore (lv' := [(4, .int 1), (3, .int 1), (0, .ref (ad 0)), (1, .int p1), (2, .int p2)]) hx hb dX8_odds_21 hl (by decide) rfl (fun ls hl => ?_)
        refine lv_iconst (v := 0) hx hb dX8_odds_23 (by decide) ?_
        refine lv_istore (lv' := [(5, .int 0), (4, .int 1), (3, .int 1), (0, .ref (ad 0)), (1, .int p1), (2, .int p2)]) hx hb dX8_odds_24 hl (by decide) rfl (fun ls hl => ?_)
        have ttl_1 := tl_1
        exact j26 (Int.toNat (5 - (0 : Int32).toInt)) H locs ls (0 : Int32) (1 : Int32) (1 : Int32) (by omega) (by omega) (by omega) (by omega) hP hD hS (lv_sub hl [0, 1, 2, 3, 4, 5] rfl)
      · refine lv_if_ne (tgt := 18) hx hb dX8_odds_13 (by decide) (fun c => absurd (by decide) c) (fun _ => ?_)
        refine lv_iconst (v := (-1)) hx hb dX8_odds_16 (by decide) ?_
        have ttl_m1 := tl_m1
        exact tI hx hb hr hlk rfl hP hS ⟨trivial, rfl⟩ dX8_odds_17
set_option maxHeartbeats 4000000 in
set_option maxRecDepth 100000 in
theorem s_X7_tell_0 (l : Launch) (B0 : Nat) (adK adV : Nat → Nat) (D : va_G) (cy : Nat → ClassId) (ad : Nat → Nat) (fr0 : Nat → va_E) (tx : Int32) (rby : Int32) (rnx : Int32) (f : Nat → va_E) (hT : TYx ad cy fr0 tx rby rnx f) (p1 : Int32) (hp1 : 0 ≤ p1.toInt ∧ p1.toInt ≤ 9) (p2 : Int32) (p3 : Int32) (sz : Nat) : TtI l yX7_tell wsX7_tell 0 0 [.ref (ad 19), .int p1, .int p2, .int p3] B0 adK adV D cy ad f sz (fun (r : Int32) (g : Nat → va_E) => (-1 ≤ r.toInt ∧ r.toInt ≤ 29) ∧ (TYx ad cy fr0 tx rby rnx g)) := by
  refine TtI.of (cc := cX7_tell) (maxL := 4) (ty := .int) (own := RX7) (by decide) rfl (Nat.le_of_ble_eq_true rfl) rfl ?_
  intro p e s m below meth c A ls hx hb hr hml hts hown hlk hK hE hP hD hS hA hAB hl
  have hl : lv_has ls 4 [(0, .ref (ad 19)), (1, .int p1), (2, .int p2), (3, .int p3)] := hl
  refine st0 (fun H locs hP hS => ?_) hP hS
  refine lv_aload_n hx hb dX7_tell_0 rfl (lv_at hl 0 rfl) ?_
  obtain ⟨x1, e3, h2⟩ := (show okX7 ad 19 (f 19) from hT.1 19 (by decide))
  refine va_get (D := D) (cl := vwCl) (ci := 7) (v := .int x1) (C := RX7) (T := TX7) (N := 5) hx hb hts in_X7_tell_X7 hown hK hP 19 (wl_at (by decide) e3) rfl 0 (by decide) (hts (.fieldLink RX7 25 "EightReasons$Witness" "count" "I") (List.mem_of_getElem? (i := 1) rfl)) (fun _ h9 => h9) rfl dX7_tell_1 ?_
  refine lv_bipush (v := 30) hx hb dX7_tell_4 (by decide) ?_
  have ttl_30 := tl_30
  refine lv_icmp_lt (tgt := 11) hx hb dX7_tell_6 (by decide) (fun c4 => ?_) (fun c4 => ?_)
  · have kc4 := c_lt c4
    refine lv_aload_n hx hb dX7_tell_11 rfl (lv_at hl 0 rfl) ?_
    refine va_get (D := D) (cl := vwCl) (ci := 7) (v := .ref (ad 20)) (C := RX7) (T := TX7) (N := 5) hx hb hts in_X7_tell_X7 hown hK hP 19 (wl_at (by decide) e3) rfl 1 (by decide) (hts (.fieldLink RX7 9 "EightReasons$Witness" "claims" "[I") (List.mem_of_getElem? (i := 2) rfl)) (fun _ h9 => h9) rfl dX7_tell_12 ?_
    refine lv_aload_n hx hb dX7_tell_15 rfl (lv_at hl 0 rfl) ?_
    refine va_get (D := D) (cl := vwCl) (ci := 7) (v := .int x1) (C := RX7) (T := TX7) (N := 5) hx hb hts in_X7_tell_X7 hown hK hP 19 (wl_at (by decide) e3) rfl 0 (by decide) (hts (.fieldLink RX7 25 "EightReasons$Witness" "count" "I") (List.mem_of_getElem? (i := 1) rfl)) (fun _ h9 => h9) rfl dX7_tell_16 ?_
    refine lv_iload_n hx hb dX7_tell_19 rfl (lv_at hl 1 rfl) ?_
    obtain ⟨g6, e5⟩ := (show okI cy 30 (f 20) from hT.1 20 (by decide))
    refine va_iast hx hb hK hP hD hS 20 0 (wl_at (by decide) e5) rfl (vp_in_iff.mpr ⟨by omega, by omega⟩) dX7_tell_20 (fun H locs hP hD hS => ?_)
    obtain ⟨f, hT, hP, hD, e7, hj8⟩ := stU (by decide) (TYx.up hT (by decide) (show OKx ad cy tx rby rnx 20 _ from (show okI cy 30 _ from ⟨_, rfl⟩))) hP hD
    have e9 := (hj8 19 (by decide)).trans e3
    refine lv_aload_n hx hb dX7_tell_21 rfl (lv_at hl 0 rfl) ?_
    refine va_get (D := D) (cl := vwCl) (ci := 7) (v := .ref (ad 21)) (C := RX7) (T := TX7) (N := 5) hx hb hts in_X7_tell_X7 hown hK hP 19 (wl_at (by decide) e9) rfl 2 (by decide) (hts (.fieldLink RX7 15 "EightReasons$Witness" "stood" "[Z") (List.mem_of_getElem? (i := 3) rfl)) (fun _ h9 => h9) rfl dX7_tell_22 ?_
    refine lv_aload_n hx hb dX7_tell_25 rfl (lv_at hl 0 rfl) ?_
    refine va_get (D := D) (cl := vwCl) (ci := 7) (v := .int x1) (C := RX7) (T := TX7) (N := 5) hx hb hts in_X7_tell_X7 hown hK hP 19 (wl_at (by decide) e9) rfl 0 (by decide) (hts (.fieldLink RX7 25 "EightReasons$Witness" "count" "I") (List.mem_of_getElem? (i := 1) rfl)) (fun _ h9 => h9) rfl dX7_tell_26 ?_
    refine lv_iload_n hx hb dX7_tell_29 rfl (lv_at hl 2 rfl) ?_
    obtain ⟨g11, e10⟩ := (show okZ cy 30 (f 21) from hT.1 21 (by decide))
    refine va_zast hx hb hK hP hD hS 21 3 (wl_at (by decide) e10) rfl (vp_in_iff.mpr ⟨by omega, by omega⟩) dX7_tell_30 (fun H locs hP hD hS => ?_)
    obtain ⟨f, hT, hP, hD, e12, hj13⟩ := stU (by decide) (TYx.up hT (by decide) (show OKx ad cy tx rby rnx 21 _ from (show okZ cy 30 _ from ⟨_, rfl⟩))) hP hD
    have e14 := (hj13 19 (by decide)).trans e9
    refine lv_aload_n hx hb dX7_tell_31 rfl (lv_at hl 0 rfl) ?_
    refine va_get (D := D) (cl := vwCl) (ci := 7) (v := .ref (ad 22)) (C := RX7) (T := TX7) (N := 5) hx hb hts in_X7_tell_X7 hown hK hP 19 (wl_at (by decide) e14) rfl 3 (by decide) (hts (.fieldLink RX7 19 "EightReasons$Witness" "toldAt" "[I") (List.mem_of_getElem? (i := 4) rfl)) (fun _ h9 => h9) rfl dX7_tell_32 ?_
    refine lv_aload_n hx hb dX7_tell_35 rfl (lv_at hl 0 rfl) ?_
    refine va_get (D := D) (cl := vwCl) (ci := 7) (v := .int x1) (C := RX7) (T := TX7) (N := 5) hx hb hts in_X7_tell_X7 hown hK hP 19 (wl_at (by decide) e14) rfl 0 (by decide) (hts (.fieldLink RX7 25 "EightReasons$Witness" "count" "I") (List.mem_of_getElem? (i := 1) rfl)) (fun _ h9 => h9) rfl dX7_tell_36 ?_
    refine lv_iload_n hx hb dX7_tell_39 rfl (lv_at hl 3 rfl) ?_
    obtain ⟨g16, e15⟩ := (show okI cy 30 (f 22) from hT.1 22 (by decide))
    refine va_iast hx hb hK hP hD hS 22 0 (wl_at (by decide) e15) rfl (vp_in_iff.mpr ⟨by omega, by omega⟩) dX7_tell_40 (fun H locs hP hD hS => ?_)
    obtain ⟨f, hT, hP, hD, e17, hj18⟩ := stU (by decide) (TYx.up hT (by decide) (show OKx ad cy tx rby rnx 22 _ from (show okI cy 30 _ from ⟨_, rfl⟩))) hP hD
    have e19 := (hj18 19 (by decide)).trans e14
    refine lv_aload_n hx hb dX7_tell_41 rfl (lv_at hl 0 rfl) ?_
    refine va_get (D := D) (cl := vwCl) (ci := 7) (v := .ref (ad 23)) (C := RX7) (T := TX7) (N := 5) hx hb hts in_X7_tell_X7 hown hK hP 19 (wl_at (by decide) e19) rfl 4 (by decide) (hts (.fieldLink RX7 22 "EightReasons$Witness" "untoldAt" "[I") (List.mem_of_getElem? (i := 5) rfl)) (fun _ h9 => h9) rfl dX7_tell_42 ?_
    refine lv_aload_n hx hb dX7_tell_45 rfl (lv_at hl 0 rfl) ?_
    refine va_get (D := D) (cl := vwCl) (ci := 7) (v := .int x1) (C := RX7) (T := TX7) (N := 5) hx hb hts in_X7_tell_X7 hown hK hP 19 (wl_at (by decide) e19) rfl 0 (by decide) (hts (.fieldLink RX7 25 "EightReasons$Witness" "count" "I") (List.mem_of_getElem? (i := 1) rfl)) (fun _ h9 => h9) rfl dX7_tell_46 ?_
    refine lv_iconst (v := (-1)) hx hb dX7_tell_49 (by decide) ?_
    obtain ⟨g21, e20⟩ := (show okI cy 30 (f 23) from hT.1 23 (by decide))
    have ttl_m1 := tl_m1
    refine va_iast hx hb hK hP hD hS 23 0 (wl_at (by decide) e20) rfl (vp_in_iff.mpr ⟨by omega, by omega⟩) dX7_tell_50 (fun H locs hP hD hS => ?_)
    obtain ⟨f, hT, hP, hD, e22, hj23⟩ := stU (by decide) (TYx.up hT (by decide) (show OKx ad cy tx rby rnx 23 _ from (show okI cy 30 _ from ⟨_, rfl⟩))) hP hD
    have e24 := (hj23 19 (by decide)).trans e19
    refine lv_aload_n hx hb dX7_tell_51 rfl (lv_at hl 0 rfl) ?_
    refine lv_dup hx hb dX7_tell_52 rfl ?_
    refine va_get (D := D) (cl := vwCl) (ci := 7) (v := .int x1) (C := RX7) (T := TX7) (N := 5) hx hb hts in_X7_tell_X7 hown hK hP 19 (wl_at (by decide) e24) rfl 0 (by decide) (hts (.fieldLink RX7 25 "EightReasons$Witness" "count" "I") (List.mem_of_getElem? (i := 1) rfl)) (fun _ h9 => h9) rfl dX7_tell_53 ?_
    refine lv_iconst (v := 1) hx hb dX7_tell_56 (by decide) ?_
    have ttl_1 := tl_1
    refine lv_iadd hx hb dX7_tell_57 ?_
    refine lv_topi (fun x25 ex25 => ?_)
    have hx25 := r_add ex25 (by omega) (by omega)
    refine va_put (D := D) (cl := vwCl) (ci := 7) (v := .int x25) (ty := tyX7 0) (C := RX7) (T := TX7) (N := 5) hx hb hts in_X7_tell_X7 tyX7 tyX7_ok nmX7 hown hK hP hD hS 19 (wl_at (by decide) e24) rfl 0 (by decide) (hts (.fieldLink RX7 25 "EightReasons$Witness" "count" "I") (List.mem_of_getElem? (i := 1) rfl)) (fun _ h9 => h9) rfl (tyX7_ok 0 (by decide)) rfl rfl (Nat.le_of_ble_eq_true rfl) dX7_tell_58 (fun H locs hP hD hS => ?_)
    obtain ⟨f, hT, hP, hD, e26, hj27⟩ := stU (by decide) (TYx.up hT (by decide) (show OKx ad cy tx rby rnx 19 _ from (show okX7 ad 19 _ from ⟨x25, rfl, by omega⟩))) hP hD
    refine lv_aload_n hx hb dX7_tell_61 rfl (lv_at hl 0 rfl) ?_
    refine va_get (D := D) (cl := vwCl) (ci := 7) (v := .int x25) (C := RX7) (T := TX7) (N := 5) hx hb hts in_X7_tell_X7 hown hK hP 19 (wl_at (by decide) e26) rfl 0 (by decide) (hts (.fieldLink RX7 25 "EightReasons$Witness" "count" "I") (List.mem_of_getElem? (i := 1) rfl)) (fun _ h9 => h9) rfl dX7_tell_62 ?_
    refine lv_iconst (v := 1) hx hb dX7_tell_65 (by decide) ?_
    refine lv_isub hx hb dX7_tell_66 ?_
    refine lv_topi (fun x28 ex28 => ?_)
    have hx28 := r_sub ex28 (by omega) (by omega)
    exact tI hx hb hr hlk rfl hP hS ⟨(by omega), hT⟩ dX7_tell_67
  · have kc4 := c_nlt c4
    refine lv_iconst (v := (-1)) hx hb dX7_tell_9 (by decide) ?_
    have ttl_m1 := tl_m1
    exact tI hx hb hr hlk rfl hP hS ⟨(by omega), hT⟩ dX7_tell_10
set_option maxHeartbeats 4000000 in
set_option maxRecDepth 100000 in
theorem s_X8_seen_0 (l : Launch) (B0 : Nat) (adK adV : Nat → Nat) (D : va_G) (cy : Nat → ClassId) (ad : Nat → Nat) (fr0 : Nat → va_E) (tx : Int32) (rby : Int32) (rnx : Int32) (f : Nat → va_E) (hT : TYx ad cy fr0 tx rby rnx f) (p1 : Int32) (p2 : Int32) (sz : Nat) : TtI l yX8_seen wsX8_seen 2 42 [.ref (ad 0), .int p1, .int p2] B0 adK adV D cy ad f sz (fun (r : Int32) (g : Nat → va_E) => (-1 ≤ r.toInt ∧ r.toInt ≤ 29) ∧ (TYx ad cy fr0 tx rby rnx g)) := by
  refine TtI.of (cc := cX8_seen) (maxL := 3) (ty := .int) (own := RX8) (by decide) rfl (Nat.le_of_ble_eq_true rfl) rfl ?_
  intro p e s m below meth c A ls hx hb hr hml hts hown hlk hK hE hP hD hS hA hAB hl
  have hl : lv_has ls 3 [(0, .ref (ad 0)), (1, .int p1), (2, .int p2)] := hl
  refine st0 (fun H locs hP hS => ?_) hP hS
  refine lv_aload_n hx hb dX8_seen_0 rfl (lv_at hl 0 rfl) ?_
  obtain ⟨t1, x3, x4, e6, h2, h5⟩ := (show okX8 ad tx 0 (f 0) from hT.1 0 (by decide))
  refine va_get (D := D) (cl := vwCl) (ci := 8) (v := .ref (ad t1)) (C := RX8) (T := TX8) (N := 13) hx hb hts in_X8_seen_X8 hown hK hP 0 (wl_at (by decide) e6) rfl 1 (by decide) (hts (.fieldLink RX8 19 "EightReasons" "told" "LEightReasons$Suit;") (List.mem_of_getElem? (i := 1) rfl)) (fun _ h9 => h9) rfl dX8_seen_1 ?_
  refine lv_iload_n hx hb dX8_seen_4 rfl (lv_at hl 1 rfl) ?_
  obtain ⟨x7, x9, x10, x12, x13, e14, h8, h11⟩ := (ty_suit hT h2)
  refine tVI (As := [.int p1]) (rest := []) (i := t1) ⟨hx, hb, hml, hown, hts⟩ hK hE hP hD hS hA hAB (s_X5_isClaim_0 l B0 adK adV D cy ad fr0 tx rby rnx f hT t1 h2 p1 _) (cwV 1 hts gX8_seen_X5_isClaim rfl rfl rfl (by decide +kernel) ⟨Nat.le_of_ble_eq_true rfl, Nat.le_of_ble_eq_true rfl⟩) (x_lt (x_suit0 h2)) 5 e14 rfl rfl hl.1 rfl (Nat.le_of_ble_eq_true rfl) dX8_seen_5 ⟨Nat.le_of_ble_eq_true rfl, Nat.le_of_ble_eq_true rfl⟩ (fun r g H locs hw hP hD hS => ?_)
  obtain ⟨hrs, rfl⟩ := hw
  obtain ⟨x15, rfl⟩ : ∃ q, q = r := ⟨_, rfl⟩
  rcases hrs with ⟨rfl, h16, h17⟩ | rfl
  · refine lv_if_eq (tgt := 27) hx hb dX8_seen_8 (by decide) (fun c => absurd c (by decide)) (fun _ => ?_)
    refine lv_aload_n hx hb dX8_seen_11 rfl (lv_at hl 0 rfl) ?_
    refine va_get (D := D) (cl := vwCl) (ci := 8) (v := .ref (ad 19)) (C := RX8) (T := TX8) (N := 13) hx hb hts in_X8_seen_X8 hown hK hP 0 (wl_at (by decide) e6) rfl 10 (by decide) (hts (.fieldLink RX8 58 "EightReasons" "witness" "LEightReasons$Witness;") (List.mem_of_getElem? (i := 2) rfl)) (fun _ h9 => h9) rfl dX8_seen_12 ?_
    refine lv_iload_n hx hb dX8_seen_15 rfl (lv_at hl 1 rfl) ?_
    refine lv_iload_n hx hb dX8_seen_16 rfl (lv_at hl 2 rfl) ?_
    refine lv_aload_n hx hb dX8_seen_17 rfl (lv_at hl 0 rfl) ?_
    refine va_get (D := D) (cl := vwCl) (ci := 8) (v := .int tx) (C := RX8) (T := TX8) (N := 13) hx hb hts in_X8_seen_X8 hown hK hP 0 (wl_at (by decide) e6) rfl 12 (by decide) (hts (.fieldLink RX8 172 "EightReasons" "time" "I") (List.mem_of_getElem? (i := 3) rfl)) (fun _ h9 => h9) rfl dX8_seen_18 ?_
    obtain ⟨x18, e20, h19⟩ := (show okX7 ad 19 (f 19) from hT.1 19 (by decide))
    refine tVI (As := [.int p1, .int p2, .int tx]) (rest := []) (i := 19) ⟨hx, hb, hml, hown, hts⟩ hK hE hP hD hS hA hAB (s_X7_tell_0 l B0 adK adV D cy ad fr0 tx rby rnx f hT p1 (by omega) p2 tx _) (cwV 3 hts gX8_seen_X7_tell rfl rfl rfl (by decide +kernel) ⟨Nat.le_of_ble_eq_true rfl, Nat.le_of_ble_eq_true rfl⟩) (by decide) 7 e20 rfl rfl hl.1 rfl (Nat.le_of_ble_eq_true rfl) dX8_seen_21 ⟨Nat.le_of_ble_eq_true rfl, Nat.le_of_ble_eq_true rfl⟩ (fun r f H locs hw hP hD hS => ?_)
    obtain ⟨hrs, hT⟩ := hw
    obtain ⟨x21, rfl⟩ : ∃ q, q = r := ⟨_, rfl⟩
    have h22 := hrs
    refine lv_goto (tgt := 28) hx hb dX8_seen_24 (by decide) ?_
    exact tI hx hb hr hlk rfl hP hS ⟨(by omega), hT⟩ dX8_seen_28
  · refine lv_if_eq (tgt := 27) hx hb dX8_seen_8 (by decide) (fun _ => ?_) (fun c => absurd (by decide) c)
    refine lv_iconst (v := (-1)) hx hb dX8_seen_27 (by decide) ?_
    have ttl_m1 := tl_m1
    exact tI hx hb hr hlk rfl hP hS ⟨(by omega), hT⟩ dX8_seen_28
set_option maxHeartbeats 4000000 in
set_option maxRecDepth 100000 in
theorem s_X7_takeBack_0 (l : Launch) (B0 : Nat) (adK adV : Nat → Nat) (D : va_G) (cy : Nat → ClassId) (ad : Nat → Nat) (fr0 : Nat → va_E) (tx : Int32) (rby : Int32) (rnx : Int32) (f : Nat → va_E) (hT : TYx ad cy fr0 tx rby rnx f) (p1 : Int32) (p2 : Int32) (sz : Nat) : TtI l yX7_takeBack wsX7_takeBack 0 0 [.ref (ad 19), .int p1, .int p2] B0 adK adV D cy ad f sz (fun (r : Int32) (g : Nat → va_E) => ((r = 1) ∨ (r = 0)) ∧ (TYx ad cy fr0 tx rby rnx g)) := by
  refine TtI.of (cc := cX7_takeBack) (maxL := 3) (ty := .boolean) (own := RX7) (by decide) rfl (Nat.le_of_ble_eq_true rfl) rfl ?_
  intro p e s m below meth c A ls hx hb hr hml hts hown hlk hK hE hP hD hS hA hAB hl
  have hl : lv_has ls 3 [(0, .ref (ad 19)), (1, .int p1), (2, .int p2)] := hl
  refine st0 (fun H locs hP hS => ?_) hP hS
  refine lv_iload_n hx hb dX7_takeBack_0 rfl (lv_at hl 1 rfl) ?_
  have ttl_0 := tl_0
  refine lv_if_lt (tgt := 22) hx hb dX7_takeBack_1 (by decide) (fun c1 => ?_) (fun c1 => ?_)
  · have kc1 := c_lt c1
    refine lv_iconst (v := 0) hx hb dX7_takeBack_22 (by decide) ?_
    exact tI hx hb hr hlk rfl hP hS ⟨(Or.inr rfl), hT⟩ dX7_takeBack_23
  · have kc1 := c_nlt c1
    refine lv_iload_n hx hb dX7_takeBack_4 rfl (lv_at hl 1 rfl) ?_
    refine lv_aload_n hx hb dX7_takeBack_5 rfl (lv_at hl 0 rfl) ?_
    obtain ⟨x2, e4, h3⟩ := (show okX7 ad 19 (f 19) from hT.1 19 (by decide))
    refine va_get (D := D) (cl := vwCl) (ci := 7) (v := .int x2) (C := RX7) (T := TX7) (N := 5) hx hb hts in_X7_takeBack_X7 hown hK hP 19 (wl_at (by decide) e4) rfl 0 (by decide) (hts (.fieldLink RX7 25 "EightReasons$Witness" "count" "I") (List.mem_of_getElem? (i := 1) rfl)) (fun _ h9 => h9) rfl dX7_takeBack_6 ?_
    refine lv_icmp_ge (tgt := 22) hx hb dX7_takeBack_9 (by decide) (fun c5 => ?_) (fun c5 => ?_)
    · have kc5 := c_le c5
      refine lv_iconst (v := 0) hx hb dX7_takeBack_22 (by decide) ?_
      exact tI hx hb hr hlk rfl hP hS ⟨(Or.inr rfl), hT⟩ dX7_takeBack_23
    · have kc5 := c_nle c5
      refine lv_aload_n hx hb dX7_takeBack_12 rfl (lv_at hl 0 rfl) ?_
      refine va_get (D := D) (cl := vwCl) (ci := 7) (v := .ref (ad 23)) (C := RX7) (T := TX7) (N := 5) hx hb hts in_X7_takeBack_X7 hown hK hP 19 (wl_at (by decide) e4) rfl 4 (by decide) (hts (.fieldLink RX7 22 "EightReasons$Witness" "untoldAt" "[I") (List.mem_of_getElem? (i := 2) rfl)) (fun _ h9 => h9) rfl dX7_takeBack_13 ?_
      refine lv_iload_n hx hb dX7_takeBack_16 rfl (lv_at hl 1 rfl) ?_
      obtain ⟨g7, e6⟩ := (show okI cy 30 (f 23) from hT.1 23 (by decide))
      refine va_iald hx hb hK hP 23 0 (wl_at (by decide) e6) rfl (vp_in_iff.mpr ⟨by omega, by omega⟩) dX7_takeBack_17 ?_
      refine lv_topi (fun x8 ex8 => ?_)
      refine lv_iconst (v := (-1)) hx hb dX7_takeBack_18 (by decide) ?_
      have ttl_m1 := tl_m1
      refine lv_icmp_eq (tgt := 24) hx hb dX7_takeBack_19 (by decide) (fun c9 => ?_) (fun c9 => ?_)
      · have kc9 := c_eq c9
        refine lv_aload_n hx hb dX7_takeBack_24 rfl (lv_at hl 0 rfl) ?_
        refine va_get (D := D) (cl := vwCl) (ci := 7) (v := .ref (ad 23)) (C := RX7) (T := TX7) (N := 5) hx hb hts in_X7_takeBack_X7 hown hK hP 19 (wl_at (by decide) e4) rfl 4 (by decide) (hts (.fieldLink RX7 22 "EightReasons$Witness" "untoldAt" "[I") (List.mem_of_getElem? (i := 2) rfl)) (fun _ h9 => h9) rfl dX7_takeBack_25 ?_
        refine lv_iload_n hx hb dX7_takeBack_28 rfl (lv_at hl 1 rfl) ?_
        refine lv_iload_n hx hb dX7_takeBack_29 rfl (lv_at hl 2 rfl) ?_
        refine va_iast hx hb hK hP hD hS 23 0 (wl_at (by decide) e6) rfl (vp_in_iff.mpr ⟨by omega, by omega⟩) dX7_takeBack_30 (fun H locs hP hD hS => ?_)
        obtain ⟨f, hT, hP, hD, e10, hj11⟩ := stU (by decide) (TYx.up hT (by decide) (show OKx ad cy tx rby rnx 23 _ from (show okI cy 30 _ from ⟨_, rfl⟩))) hP hD
        have e12 := (hj11 19 (by decide)).trans e4
        refine lv_iconst (v := 1) hx hb dX7_takeBack_31 (by decide) ?_
        have ttl_1 := tl_1
        exact tI hx hb hr hlk rfl hP hS ⟨(Or.inl rfl), hT⟩ dX7_takeBack_32
      · have kc9 := c_ne c9
        refine lv_iconst (v := 0) hx hb dX7_takeBack_22 (by decide) ?_
        exact tI hx hb hr hlk rfl hP hS ⟨(Or.inr rfl), hT⟩ dX7_takeBack_23
set_option maxHeartbeats 4000000 in
set_option maxRecDepth 100000 in
theorem s_X8_untell_0 (l : Launch) (B0 : Nat) (adK adV : Nat → Nat) (D : va_G) (cy : Nat → ClassId) (ad : Nat → Nat) (fr0 : Nat → va_E) (tx : Int32) (rby : Int32) (rnx : Int32) (f : Nat → va_E) (hT : TYx ad cy fr0 tx rby rnx f) (p1 : Int32) (sz : Nat) : TtI l yX8_untell wsX8_untell 1 22 [.ref (ad 0), .int p1] B0 adK adV D cy ad f sz (fun (r : Int32) (g : Nat → va_E) => ((r = 1) ∨ (r = 0)) ∧ (TYx ad cy fr0 tx rby rnx g)) := by
  refine TtI.of (cc := cX8_untell) (maxL := 2) (ty := .boolean) (own := RX8) (by decide) rfl (Nat.le_of_ble_eq_true rfl) rfl ?_
  intro p e s m below meth c A ls hx hb hr hml hts hown hlk hK hE hP hD hS hA hAB hl
  have hl : lv_has ls 2 [(0, .ref (ad 0)), (1, .int p1)] := hl
  refine st0 (fun H locs hP hS => ?_) hP hS
  refine lv_aload_n hx hb dX8_untell_0 rfl (lv_at hl 0 rfl) ?_
  obtain ⟨t1, x3, x4, e6, h2, h5⟩ := (show okX8 ad tx 0 (f 0) from hT.1 0 (by decide))
  refine va_get (D := D) (cl := vwCl) (ci := 8) (v := .ref (ad 19)) (C := RX8) (T := TX8) (N := 13) hx hb hts in_X8_untell_X8 hown hK hP 0 (wl_at (by decide) e6) rfl 10 (by decide) (hts (.fieldLink RX8 58 "EightReasons" "witness" "LEightReasons$Witness;") (List.mem_of_getElem? (i := 1) rfl)) (fun _ h9 => h9) rfl dX8_untell_1 ?_
  refine lv_iload_n hx hb dX8_untell_4 rfl (lv_at hl 1 rfl) ?_
  refine lv_aload_n hx hb dX8_untell_5 rfl (lv_at hl 0 rfl) ?_
  refine va_get (D := D) (cl := vwCl) (ci := 8) (v := .int tx) (C := RX8) (T := TX8) (N := 13) hx hb hts in_X8_untell_X8 hown hK hP 0 (wl_at (by decide) e6) rfl 12 (by decide) (hts (.fieldLink RX8 172 "EightReasons" "time" "I") (List.mem_of_getElem? (i := 2) rfl)) (fun _ h9 => h9) rfl dX8_untell_6 ?_
  obtain ⟨x7, e9, h8⟩ := (show okX7 ad 19 (f 19) from hT.1 19 (by decide))
  refine tVI (As := [.int p1, .int tx]) (rest := []) (i := 19) ⟨hx, hb, hml, hown, hts⟩ hK hE hP hD hS hA hAB (s_X7_takeBack_0 l B0 adK adV D cy ad fr0 tx rby rnx f hT p1 tx _) (cwV 2 hts gX8_untell_X7_takeBack rfl rfl rfl (by decide +kernel) ⟨Nat.le_of_ble_eq_true rfl, Nat.le_of_ble_eq_true rfl⟩) (by decide) 7 e9 rfl rfl hl.1 rfl (Nat.le_of_ble_eq_true rfl) dX8_untell_9 ⟨Nat.le_of_ble_eq_true rfl, Nat.le_of_ble_eq_true rfl⟩ (fun r f H locs hw hP hD hS => ?_)
  obtain ⟨hrs, hT⟩ := hw
  obtain ⟨x10, rfl⟩ : ∃ q, q = r := ⟨_, rfl⟩
  rcases hrs with rfl | rfl
  · have ttl_1 := tl_1
    exact tI hx hb hr hlk rfl hP hS ⟨(Or.inl rfl), hT⟩ dX8_untell_12
  · have ttl_0 := tl_0
    exact tI hx hb hr hlk rfl hP hS ⟨(Or.inr rfl), hT⟩ dX8_untell_12
set_option maxHeartbeats 4000000 in
set_option maxRecDepth 100000 in
theorem s_X8_later_0 (l : Launch) (B0 : Nat) (adK adV : Nat → Nat) (D : va_G) (cy : Nat → ClassId) (ad : Nat → Nat) (fr0 : Nat → va_E) (tx : Int32) (rby : Int32) (rnx : Int32) (f : Nat → va_E) (hT : TYx ad cy fr0 tx rby rnx f) (p1 : Int32) (hph_tx : 0 ≤ tx.toInt ∧ tx.toInt ≤ 100000) (sz : Nat) : TtI l yX8_later wsX8_later 0 0 [.ref (ad 0), .int p1] B0 adK adV D cy ad f sz (fun (r : Int32) (g : Nat → va_E) => (-1 ≤ r.toInt ∧ r.toInt ≤ 101000) ∧ (∃ (tx' : Int32), TYx ad cy fr0 tx' rby rnx g ∧ (0 ≤ tx'.toInt ∧ tx'.toInt ≤ 101000) ∧ ((r.toInt = -1 ∧ tx'.toInt = tx.toInt ∧ (p1.toInt < 0 ∨ 1000 < p1.toInt ∨ 100000 < tx.toInt + p1.toInt)) ∨ (r.toInt = tx'.toInt ∧ tx'.toInt = tx.toInt + p1.toInt ∧ 0 ≤ p1.toInt ∧ p1.toInt ≤ 1000 ∧ tx.toInt + p1.toInt ≤ 100000)))) := by
  refine TtI.of (cc := cX8_later) (maxL := 2) (ty := .int) (own := RX8) (by decide) rfl (Nat.le_of_ble_eq_true rfl) rfl ?_
  intro p e s m below meth c A ls hx hb hr hml hts hown hlk hK hE hP hD hS hA hAB hl
  have hl : lv_has ls 2 [(0, .ref (ad 0)), (1, .int p1)] := hl
  refine st0 (fun H locs hP hS => ?_) hP hS
  refine lv_iload_n hx hb dX8_later_0 rfl (lv_at hl 1 rfl) ?_
  have ttl_0 := tl_0
  refine lv_if_lt (tgt := 23) hx hb dX8_later_1 (by decide) (fun c1 => ?_) (fun c1 => ?_)
  · have kc1 := c_lt c1
    refine lv_iconst (v := (-1)) hx hb dX8_later_23 (by decide) ?_
    have ttl_m1 := tl_m1
    exact tI hx hb hr hlk rfl hP hS ⟨(by omega), ⟨tx, hT, by omega, by omega⟩⟩ dX8_later_24
  · have kc1 := c_nlt c1
    refine lv_iload_n hx hb dX8_later_4 rfl (lv_at hl 1 rfl) ?_
    refine lv_sipush (v := 1000) hx hb dX8_later_5 (by decide) ?_
    have ttl_1000 := tl_1000
    refine lv_icmp_gt (tgt := 23) hx hb dX8_later_8 (by decide) (fun c2 => ?_) (fun c2 => ?_)
    · have kc2 := c_lt c2
      refine lv_iconst (v := (-1)) hx hb dX8_later_23 (by decide) ?_
      have ttl_m1 := tl_m1
      exact tI hx hb hr hlk rfl hP hS ⟨(by omega), ⟨tx, hT, by omega, by omega⟩⟩ dX8_later_24
    · have kc2 := c_nlt c2
      refine lv_aload_n hx hb dX8_later_11 rfl (lv_at hl 0 rfl) ?_
      obtain ⟨t3, x5, x6, e8, h4, h7⟩ := (show okX8 ad tx 0 (f 0) from hT.1 0 (by decide))
      refine va_get (D := D) (cl := vwCl) (ci := 8) (v := .int tx) (C := RX8) (T := TX8) (N := 13) hx hb hts in_X8_later_X8 hown hK hP 0 (wl_at (by decide) e8) rfl 12 (by decide) (hts (.fieldLink RX8 172 "EightReasons" "time" "I") (List.mem_of_getElem? (i := 1) rfl)) (fun _ h9 => h9) rfl dX8_later_12 ?_
      refine lv_iload_n hx hb dX8_later_15 rfl (lv_at hl 1 rfl) ?_
      refine lv_iadd hx hb dX8_later_16 ?_
      refine lv_topi (fun x9 ex9 => ?_)
      have hx9 := r_add ex9 (by omega) (by omega)
      refine lv_ldcw (v := 100000) hx hb hown (hts (.constant RX8 340 (100000)) (List.mem_of_getElem? (i := 2) rfl)) dX8_later_17 ?_
      have ttl_100000 := tl_100000
      refine lv_icmp_le (tgt := 25) hx hb dX8_later_20 (by decide) (fun c10 => ?_) (fun c10 => ?_)
      · have kc10 := c_le c10
        refine lv_aload_n hx hb dX8_later_25 rfl (lv_at hl 0 rfl) ?_
        refine lv_dup hx hb dX8_later_26 rfl ?_
        refine va_get (D := D) (cl := vwCl) (ci := 8) (v := .int tx) (C := RX8) (T := TX8) (N := 13) hx hb hts in_X8_later_X8 hown hK hP 0 (wl_at (by decide) e8) rfl 12 (by decide) (hts (.fieldLink RX8 172 "EightReasons" "time" "I") (List.mem_of_getElem? (i := 1) rfl)) (fun _ h9 => h9) rfl dX8_later_27 ?_
        refine lv_iload_n hx hb dX8_later_30 rfl (lv_at hl 1 rfl) ?_
        refine lv_iadd hx hb dX8_later_31 ?_
        refine lv_topi (fun x11 ex11 => ?_)
        have hx11 := r_add ex11 (by omega) (by omega)
        refine va_put (D := D) (cl := vwCl) (ci := 8) (v := .int x11) (ty := tyX8 12) (C := RX8) (T := TX8) (N := 13) hx hb hts in_X8_later_X8 tyX8 tyX8_ok nmX8 hown hK hP hD hS 0 (wl_at (by decide) e8) rfl 12 (by decide) (hts (.fieldLink RX8 172 "EightReasons" "time" "I") (List.mem_of_getElem? (i := 1) rfl)) (fun _ h9 => h9) rfl (tyX8_ok 12 (by decide)) rfl rfl (Nat.le_of_ble_eq_true rfl) dX8_later_32 (fun H locs hP hD hS => ?_)
        obtain ⟨f, hT, hP, hD, e12, hj13⟩ := stU (by decide) (TYx.p0 hT (show OKx ad cy x11 rby rnx 0 _ from (show okX8 ad x11 0 _ from ⟨t3, x5, x6, rfl, h4, by omega⟩))) hP hD
        refine lv_aload_n hx hb dX8_later_35 rfl (lv_at hl 0 rfl) ?_
        refine va_get (D := D) (cl := vwCl) (ci := 8) (v := .int x11) (C := RX8) (T := TX8) (N := 13) hx hb hts in_X8_later_X8 hown hK hP 0 (wl_at (by decide) e12) rfl 12 (by decide) (hts (.fieldLink RX8 172 "EightReasons" "time" "I") (List.mem_of_getElem? (i := 1) rfl)) (fun _ h9 => h9) rfl dX8_later_36 ?_
        exact tI hx hb hr hlk rfl hP hS ⟨(by omega), ⟨x11, hT, by omega, by omega⟩⟩ dX8_later_39
      · have kc10 := c_nle c10
        refine lv_iconst (v := (-1)) hx hb dX8_later_23 (by decide) ?_
        have ttl_m1 := tl_m1
        exact tI hx hb hr hlk rfl hP hS ⟨(by omega), ⟨tx, hT, by omega, by omega⟩⟩ dX8_later_24
set_option maxHeartbeats 4000000 in
set_option maxRecDepth 100000 in
theorem s_X4_startAs_1 (l : Launch) (B0 : Nat) (adK adV : Nat → Nat) (D : va_G) (cy : Nat → ClassId) (ad : Nat → Nat) (fr0 : Nat → va_E) (tx : Int32) (rby : Int32) (rnx : Int32) (f : Nat → va_E) (hT : TYx ad cy fr0 tx rby rnx f) (q1 : Nat) (hq1 : isSuit q1) (sz : Nat) : TtV l yX4_startAs wsX4_startAs 1 60 [.ref (ad 7), .ref (ad q1)] B0 adK adV D cy ad f sz (fun (g : Nat → va_E) => True ∧ (TYx ad cy fr0 tx rby rnx g)) := by
  refine TtV.of (cc := cX4_startAs) (maxL := 2) (own := RX4) (by decide) rfl (Nat.le_of_ble_eq_true rfl) rfl ?_
  intro p e s m below meth c A ls hx hb hr hml hts hown hlk hK hE hP hD hS hA hAB hl
  have hl : lv_has ls 2 [(0, .ref (ad 7)), (1, .ref (ad q1))] := hl
  refine st0 (fun H locs hP hS => ?_) hP hS
  refine lv_aload_n hx hb dX4_startAs_0 rfl (lv_at hl 1 rfl) ?_
  obtain ⟨x1, x3, x4, x6, x7, e8, h2, h5⟩ := (ty_suit hT hq1)
  refine va_get (D := D) (cl := vwCl) (ci := 5) (v := .ref (ad (q1 + 6))) (C := RX5) (T := TX5) (N := 12) hx hb hts in_X4_startAs_X5 hown hK hP q1 (wl_at (x_lt (x_suit0 hq1)) e8) rfl 10 (by decide) (hts (.fieldLink RX4 15 "EightReasons$Suit" "strong" "[I") (List.mem_of_getElem? (i := 1) rfl)) (fun _ h9 => h9) rfl dX4_startAs_1 ?_
  refine lv_iconst (v := 0) hx hb dX4_startAs_4 (by decide) ?_
  refine lv_aload_n hx hb dX4_startAs_5 rfl (lv_at hl 0 rfl) ?_
  obtain ⟨x9, x11, x12, x13, e14, h10⟩ := (show okX4 ad 7 (f 7) from hT.1 7 (by decide))
  refine va_get (D := D) (cl := vwCl) (ci := 4) (v := .ref (ad 8)) (C := RX4) (T := TX4) (N := 5) hx hb hts in_X4_startAs_X4 hown hK hP 7 (wl_at (by decide) e14) rfl 0 (by decide) (hts (.fieldLink RX4 9 "EightReasons$State" "strong" "[I") (List.mem_of_getElem? (i := 2) rfl)) (fun _ h9 => h9) rfl dX4_startAs_6 ?_
  refine lv_iconst (v := 0) hx hb dX4_startAs_9 (by decide) ?_
  refine lv_bipush (v := 12) hx hb dX4_startAs_10 (by decide) ?_
  obtain ⟨g16, e15⟩ := (ty_suit6 hT hq1)
  obtain ⟨g18, e17⟩ := (show okI cy 12 (f 8) from hT.1 8 (by decide))
  refine va_copyi hx hb (hml.trans hl.1.symm) hown (hts (.methodLink RX4 18 arraycopyName) (List.mem_of_getElem? (i := 3) rfl)) (hts (.native arraycopyName) (List.mem_of_getElem? (i := 4) rfl)) (hts (.static arraycopyName) (List.mem_of_getElem? (i := 5) rfl)) (hts (.initialized "java/lang/System") (List.mem_of_getElem? (i := 6) rfl)) hK hP hD hS (q1 + 6) 8 0 0 (ty := .int) (wl_at (x_lt (x_suit hq1 (by decide))) e15) (wl_at (by decide) e17) rfl rfl rfl (by decide) (by decide) (by decide) (by decide) (by decide) (fun _ _ => rfl) (Nat.le_of_ble_eq_true rfl) (Nat.le_of_ble_eq_true rfl) dX4_startAs_12 (fun H locs hP hD hS => ?_)
  obtain ⟨f, hT, hP, hD, e19, hj20⟩ := stU (by decide) (TYx.up hT (by decide) (show OKx ad cy tx rby rnx 8 _ from (show okI cy 12 _ from ⟨_, rfl⟩))) hP hD
  have e21 := (hj20 7 (by decide)).trans e14
  refine lv_aload_n hx hb dX4_startAs_15 rfl (lv_at hl 0 rfl) ?_
  refine lv_aload_n hx hb dX4_startAs_16 rfl (lv_at hl 1 rfl) ?_
  obtain ⟨x22, x24, x25, x27, x28, e29, h23, h26⟩ := (ty_suit hT hq1)
  refine tVI (As := []) (rest := [.ref (ad 7)]) (i := q1) ⟨hx, hb, hml, hown, hts⟩ hK hE hP hD hS hA hAB (s_X5_allStrands_0 l B0 adK adV D cy ad fr0 tx rby rnx f hT q1 hq1 _) (cwV 0 hts gX4_startAs_X5_allStrands rfl rfl rfl (by decide +kernel) ⟨Nat.le_of_ble_eq_true rfl, Nat.le_of_ble_eq_true rfl⟩) (x_lt (x_suit0 hq1)) 5 e29 rfl rfl hl.1 rfl (Nat.le_of_ble_eq_true rfl) dX4_startAs_17 ⟨Nat.le_of_ble_eq_true rfl, Nat.le_of_ble_eq_true rfl⟩ (fun r g H locs hw hP hD hS => ?_)
  obtain ⟨hrs, rfl⟩ := hw
  obtain ⟨x30, rfl⟩ : ∃ q, q = r := ⟨_, rfl⟩
  have h31 := hrs
  refine va_put (D := D) (cl := vwCl) (ci := 4) (v := .int x30) (ty := tyX4 1) (C := RX4) (T := TX4) (N := 5) hx hb hts in_X4_startAs_X4 tyX4 tyX4_ok nmX4 hown hK hP hD hS 7 (wl_at (by decide) e21) rfl 1 (by decide) (hts (.fieldLink RX4 28 "EightReasons$State" "tied" "I") (List.mem_of_getElem? (i := 7) rfl)) (fun _ h9 => h9) rfl (tyX4_ok 1 (by decide)) rfl rfl (Nat.le_of_ble_eq_true rfl) dX4_startAs_20 (fun H locs hP hD hS => ?_)
  obtain ⟨f, hT, hP, hD, e32, hj33⟩ := stU (by decide) (TYx.up hT (by decide) (show OKx ad cy tx rby rnx 7 _ from (show okX4 ad 7 _ from ⟨x30, x11, x12, x13, rfl, by omega⟩))) hP hD
  refine lv_aload_n hx hb dX4_startAs_23 rfl (lv_at hl 0 rfl) ?_
  refine lv_iconst (v := 0) hx hb dX4_startAs_24 (by decide) ?_
  refine va_put (D := D) (cl := vwCl) (ci := 4) (v := .int 0) (ty := tyX4 2) (C := RX4) (T := TX4) (N := 5) hx hb hts in_X4_startAs_X4 tyX4 tyX4_ok nmX4 hown hK hP hD hS 7 (wl_at (by decide) e32) rfl 2 (by decide) (hts (.fieldLink RX4 32 "EightReasons$State" "struck" "I") (List.mem_of_getElem? (i := 8) rfl)) (fun _ h9 => h9) rfl (tyX4_ok 2 (by decide)) rfl rfl (Nat.le_of_ble_eq_true rfl) dX4_startAs_25 (fun H locs hP hD hS => ?_)
  obtain ⟨f, hT, hP, hD, e34, hj35⟩ := stU (by decide) (TYx.up hT (by decide) (show OKx ad cy tx rby rnx 7 _ from (show okX4 ad 7 _ from ⟨x30, (0 : Int32), x12, x13, rfl, by omega⟩))) hP hD
  refine lv_aload_n hx hb dX4_startAs_28 rfl (lv_at hl 0 rfl) ?_
  refine lv_iconst (v := 0) hx hb dX4_startAs_29 (by decide) ?_
  refine va_put (D := D) (cl := vwCl) (ci := 4) (v := .int 0) (ty := tyX4 3) (C := RX4) (T := TX4) (N := 5) hx hb hts in_X4_startAs_X4 tyX4 tyX4_ok nmX4 hown hK hP hD hS 7 (wl_at (by decide) e34) rfl 3 (by decide) (hts (.fieldLink RX4 35 "EightReasons$State" "day" "I") (List.mem_of_getElem? (i := 9) rfl)) (fun _ h9 => h9) rfl (tyX4_ok 3 (by decide)) rfl rfl (Nat.le_of_ble_eq_true rfl) dX4_startAs_30 (fun H locs hP hD hS => ?_)
  obtain ⟨f, hT, hP, hD, e36, hj37⟩ := stU (by decide) (TYx.up hT (by decide) (show OKx ad cy tx rby rnx 7 _ from (show okX4 ad 7 _ from ⟨x30, (0 : Int32), (0 : Int32), x13, rfl, by omega⟩))) hP hD
  refine lv_aload_n hx hb dX4_startAs_33 rfl (lv_at hl 0 rfl) ?_
  refine lv_aload_n hx hb dX4_startAs_34 rfl (lv_at hl 1 rfl) ?_
  obtain ⟨x38, x40, x41, x43, x44, e45, h39, h42⟩ := (ty_suit hT hq1)
  refine va_get (D := D) (cl := vwCl) (ci := 5) (v := .int x44) (C := RX5) (T := TX5) (N := 12) hx hb hts in_X4_startAs_X5 hown hK hP q1 (wl_at (x_lt (x_suit0 hq1)) e45) rfl 4 (by decide) (hts (.fieldLink RX4 38 "EightReasons$Suit" "draw" "I") (List.mem_of_getElem? (i := 10) rfl)) (fun _ h9 => h9) rfl dX4_startAs_35 ?_
  refine va_put (D := D) (cl := vwCl) (ci := 4) (v := .int x44) (ty := tyX4 4) (C := RX4) (T := TX4) (N := 5) hx hb hts in_X4_startAs_X4 tyX4 tyX4_ok nmX4 hown hK hP hD hS 7 (wl_at (by decide) e36) rfl 4 (by decide) (hts (.fieldLink RX4 41 "EightReasons$State" "seed" "I") (List.mem_of_getElem? (i := 11) rfl)) (fun _ h9 => h9) rfl (tyX4_ok 4 (by decide)) rfl rfl (Nat.le_of_ble_eq_true rfl) dX4_startAs_38 (fun H locs hP hD hS => ?_)
  obtain ⟨f, hT, hP, hD, e46, hj47⟩ := stU (by decide) (TYx.up hT (by decide) (show OKx ad cy tx rby rnx 7 _ from (show okX4 ad 7 _ from ⟨x30, (0 : Int32), (0 : Int32), x44, rfl, by omega⟩))) hP hD
  exact tV hx hb hr hlk hP hS ⟨trivial, hT⟩ dX4_startAs_41
set_option maxHeartbeats 4000000 in
set_option maxRecDepth 100000 in
theorem s_X6_keep_0 (l : Launch) (B0 : Nat) (adK adV : Nat → Nat) (D : va_G) (cy : Nat → ClassId) (ad : Nat → Nat) (fr0 : Nat → va_E) (tx : Int32) (rby : Int32) (rnx : Int32) (f : Nat → va_E) (hT : TYx ad cy fr0 tx rby rnx f) (p1 : Int32) (hp1 : 0 ≤ p1.toInt ∧ p1.toInt ≤ 4095) (p2 : Int32) (sz : Nat) : TtV l yX6_keep wsX6_keep 0 0 [.ref (ad 24), .int p1, .int p2] B0 adK adV D cy ad f sz (fun (g : Nat → va_E) => True ∧ (TYx ad cy fr0 tx rby rnx g)) := by
  refine TtV.of (cc := cX6_keep) (maxL := 3) (own := RX6) (by decide) rfl (Nat.le_of_ble_eq_true rfl) rfl ?_
  intro p e s m below meth c A ls hx hb hr hml hts hown hlk hK hE hP hD hS hA hAB hl
  have hl : lv_has ls 3 [(0, .ref (ad 24)), (1, .int p1), (2, .int p2)] := hl
  refine st0 (fun H locs hP hS => ?_) hP hS
  refine lv_aload_n hx hb dX6_keep_0 rfl (lv_at hl 0 rfl) ?_
  obtain ⟨x1, e3, h2⟩ := (show okX6 ad 24 (f 24) from hT.1 24 (by decide))
  refine va_get (D := D) (cl := vwCl) (ci := 6) (v := .int x1) (C := RX6) (T := TX6) (N := 3) hx hb hts in_X6_keep_X6 hown hK hP 24 (wl_at (by decide) e3) rfl 0 (by decide) (hts (.fieldLink RX6 18 "EightReasons$Ways" "count" "I") (List.mem_of_getElem? (i := 1) rfl)) (fun _ h9 => h9) rfl dX6_keep_1 ?_
  refine lv_bipush (v := 79) hx hb dX6_keep_4 (by decide) ?_
  have ttl_79 := tl_79
  refine lv_icmp_ge (tgt := 39) hx hb dX6_keep_6 (by decide) (fun c4 => ?_) (fun c4 => ?_)
  · have kc4 := c_le c4
    exact tV hx hb hr hlk hP hS ⟨trivial, hT⟩ dX6_keep_39
  · have kc4 := c_nle c4
    refine lv_aload_n hx hb dX6_keep_9 rfl (lv_at hl 0 rfl) ?_
    refine va_get (D := D) (cl := vwCl) (ci := 6) (v := .ref (ad 25)) (C := RX6) (T := TX6) (N := 3) hx hb hts in_X6_keep_X6 hown hK hP 24 (wl_at (by decide) e3) rfl 1 (by decide) (hts (.fieldLink RX6 9 "EightReasons$Ways" "cuts" "[I") (List.mem_of_getElem? (i := 2) rfl)) (fun _ h9 => h9) rfl dX6_keep_10 ?_
    refine lv_aload_n hx hb dX6_keep_13 rfl (lv_at hl 0 rfl) ?_
    refine va_get (D := D) (cl := vwCl) (ci := 6) (v := .int x1) (C := RX6) (T := TX6) (N := 3) hx hb hts in_X6_keep_X6 hown hK hP 24 (wl_at (by decide) e3) rfl 0 (by decide) (hts (.fieldLink RX6 18 "EightReasons$Ways" "count" "I") (List.mem_of_getElem? (i := 1) rfl)) (fun _ h9 => h9) rfl dX6_keep_14 ?_
    refine lv_iload_n hx hb dX6_keep_17 rfl (lv_at hl 1 rfl) ?_
    obtain ⟨g6, e5⟩ := (show okI cy 79 (f 25) from hT.1 25 (by decide))
    refine va_iast hx hb hK hP hD hS 25 0 (wl_at (by decide) e5) rfl (vp_in_iff.mpr ⟨by omega, by omega⟩) dX6_keep_18 (fun H locs hP hD hS => ?_)
    obtain ⟨f, hT, hP, hD, e7, hj8⟩ := stU (by decide) (TYx.up hT (by decide) (show OKx ad cy tx rby rnx 25 _ from (show okI cy 79 _ from ⟨_, rfl⟩))) hP hD
    have e9 := (hj8 24 (by decide)).trans e3
    refine lv_aload_n hx hb dX6_keep_19 rfl (lv_at hl 0 rfl) ?_
    refine va_get (D := D) (cl := vwCl) (ci := 6) (v := .ref (ad 26)) (C := RX6) (T := TX6) (N := 3) hx hb hts in_X6_keep_X6 hown hK hP 24 (wl_at (by decide) e9) rfl 2 (by decide) (hts (.fieldLink RX6 15 "EightReasons$Ways" "ups" "[I") (List.mem_of_getElem? (i := 3) rfl)) (fun _ h9 => h9) rfl dX6_keep_20 ?_
    refine lv_aload_n hx hb dX6_keep_23 rfl (lv_at hl 0 rfl) ?_
    refine va_get (D := D) (cl := vwCl) (ci := 6) (v := .int x1) (C := RX6) (T := TX6) (N := 3) hx hb hts in_X6_keep_X6 hown hK hP 24 (wl_at (by decide) e9) rfl 0 (by decide) (hts (.fieldLink RX6 18 "EightReasons$Ways" "count" "I") (List.mem_of_getElem? (i := 1) rfl)) (fun _ h9 => h9) rfl dX6_keep_24 ?_
    refine lv_iload_n hx hb dX6_keep_27 rfl (lv_at hl 2 rfl) ?_
    obtain ⟨g11, e10⟩ := (show okI cy 79 (f 26) from hT.1 26 (by decide))
    refine va_iast hx hb hK hP hD hS 26 0 (wl_at (by decide) e10) rfl (vp_in_iff.mpr ⟨by omega, by omega⟩) dX6_keep_28 (fun H locs hP hD hS => ?_)
    obtain ⟨f, hT, hP, hD, e12, hj13⟩ := stU (by decide) (TYx.up hT (by decide) (show OKx ad cy tx rby rnx 26 _ from (show okI cy 79 _ from ⟨_, rfl⟩))) hP hD
    have e14 := (hj13 24 (by decide)).trans e9
    refine lv_aload_n hx hb dX6_keep_29 rfl (lv_at hl 0 rfl) ?_
    refine lv_dup hx hb dX6_keep_30 rfl ?_
    refine va_get (D := D) (cl := vwCl) (ci := 6) (v := .int x1) (C := RX6) (T := TX6) (N := 3) hx hb hts in_X6_keep_X6 hown hK hP 24 (wl_at (by decide) e14) rfl 0 (by decide) (hts (.fieldLink RX6 18 "EightReasons$Ways" "count" "I") (List.mem_of_getElem? (i := 1) rfl)) (fun _ h9 => h9) rfl dX6_keep_31 ?_
    refine lv_iconst (v := 1) hx hb dX6_keep_34 (by decide) ?_
    have ttl_1 := tl_1
    refine lv_iadd hx hb dX6_keep_35 ?_
    refine lv_topi (fun x15 ex15 => ?_)
    have hx15 := r_add ex15 (by omega) (by omega)
    refine va_put (D := D) (cl := vwCl) (ci := 6) (v := .int x15) (ty := tyX6 0) (C := RX6) (T := TX6) (N := 3) hx hb hts in_X6_keep_X6 tyX6 tyX6_ok nmX6 hown hK hP hD hS 24 (wl_at (by decide) e14) rfl 0 (by decide) (hts (.fieldLink RX6 18 "EightReasons$Ways" "count" "I") (List.mem_of_getElem? (i := 1) rfl)) (fun _ h9 => h9) rfl (tyX6_ok 0 (by decide)) rfl rfl (Nat.le_of_ble_eq_true rfl) dX6_keep_36 (fun H locs hP hD hS => ?_)
    obtain ⟨f, hT, hP, hD, e16, hj17⟩ := stU (by decide) (TYx.up hT (by decide) (show OKx ad cy tx rby rnx 24 _ from (show okX6 ad 24 _ from ⟨x15, rfl, by omega⟩))) hP hD
    exact tV hx hb hr hlk hP hS ⟨trivial, hT⟩ dX6_keep_39
set_option maxHeartbeats 4000000 in
set_option maxRecDepth 100000 in
theorem s_X7_counts_0 (l : Launch) (B0 : Nat) (adK adV : Nat → Nat) (D : va_G) (cy : Nat → ClassId) (ad : Nat → Nat) (fr0 : Nat → va_E) (tx : Int32) (rby : Int32) (rnx : Int32) (f : Nat → va_E) (hT : TYx ad cy fr0 tx rby rnx f) (p1 : Int32) (hp1 : 0 ≤ p1.toInt ∧ p1.toInt ≤ 29) (p2 : Int32) (sz : Nat) : TtI l yX7_counts wsX7_counts 0 0 [.ref (ad 19), .int p1, .int p2] B0 adK adV D cy ad f sz (fun (r : Int32) (g : Nat → va_E) => ((r = 1) ∨ (r = 0)) ∧ (f = g)) := by
  refine TtI.of (cc := cX7_counts) (maxL := 3) (ty := .boolean) (own := RX7) (by decide) rfl (Nat.le_of_ble_eq_true rfl) rfl ?_
  intro p e s m below meth c A ls hx hb hr hml hts hown hlk hK hE hP hD hS hA hAB hl
  have hl : lv_has ls 3 [(0, .ref (ad 19)), (1, .int p1), (2, .int p2)] := hl
  refine st0 (fun H locs hP hS => ?_) hP hS
  have j30 : ∀ (H : Heap) (locs : List Loc) (ls : Array Slot), (0 ≤ p1.toInt ∧ p1.toInt ≤ 29) → (va_P D vwCl (wl ad f) H) → (va_D A (wl ad f)) → (va_S A s.heap H locs) → (lv_has ls 3 [(0, .ref (ad 19)), (1, .int p1), (2, .int p2)]) → W p l e (rmO 0 0 0 0) s m ([.ref (ad 19), .int p1, .int p2] : List Value).toArray below meth c H locs 0 0 (MQ below (va_Qi (fun (r : Int32) (g : Nat → va_E) => ((r = 1) ∨ (r = 0)) ∧ (f = g)) (fun g t => PstT D ad g t) A) ([.ref (ad 19), .int p1, .int p2] : List Value).toArray s 0 0 A) (F0 m 30 ls []) := by
    intro H locs ls hv30_l1 hP hD hS hl
    refine lv_iconst (v := 1) hx hb dX7_counts_30 (by decide) ?_
    refine lv_goto (tgt := 35) hx hb dX7_counts_31 (by decide) ?_
    have ttl_1 := tl_1
    exact tI hx hb hr hlk rfl hP hS ⟨(Or.inl rfl), rfl⟩ dX7_counts_35
  refine lv_aload_n hx hb dX7_counts_0 rfl (lv_at hl 0 rfl) ?_
  obtain ⟨x1, e3, h2⟩ := (show okX7 ad 19 (f 19) from hT.1 19 (by decide))
  refine va_get (D := D) (cl := vwCl) (ci := 7) (v := .ref (ad 22)) (C := RX7) (T := TX7) (N := 5) hx hb hts in_X7_counts_X7 hown hK hP 19 (wl_at (by decide) e3) rfl 3 (by decide) (hts (.fieldLink RX7 19 "EightReasons$Witness" "toldAt" "[I") (List.mem_of_getElem? (i := 1) rfl)) (fun _ h9 => h9) rfl dX7_counts_1 ?_
  refine lv_iload_n hx hb dX7_counts_4 rfl (lv_at hl 1 rfl) ?_
  obtain ⟨g5, e4⟩ := (show okI cy 30 (f 22) from hT.1 22 (by decide))
  refine va_iald hx hb hK hP 22 0 (wl_at (by decide) e4) rfl (vp_in_iff.mpr ⟨by omega, by omega⟩) dX7_counts_5 ?_
  refine lv_topi (fun x6 ex6 => ?_)
  refine lv_iload_n hx hb dX7_counts_6 rfl (lv_at hl 2 rfl) ?_
  refine lv_icmp_gt (tgt := 34) hx hb dX7_counts_7 (by decide) (fun c7 => ?_) (fun c7 => ?_)
  · have kc7 := c_lt c7
    refine lv_iconst (v := 0) hx hb dX7_counts_34 (by decide) ?_
    have ttl_0 := tl_0
    exact tI hx hb hr hlk rfl hP hS ⟨(Or.inr rfl), rfl⟩ dX7_counts_35
  · have kc7 := c_nlt c7
    refine lv_aload_n hx hb dX7_counts_10 rfl (lv_at hl 0 rfl) ?_
    refine va_get (D := D) (cl := vwCl) (ci := 7) (v := .ref (ad 23)) (C := RX7) (T := TX7) (N := 5) hx hb hts in_X7_counts_X7 hown hK hP 19 (wl_at (by decide) e3) rfl 4 (by decide) (hts (.fieldLink RX7 22 "EightReasons$Witness" "untoldAt" "[I") (List.mem_of_getElem? (i := 2) rfl)) (fun _ h9 => h9) rfl dX7_counts_11 ?_
    refine lv_iload_n hx hb dX7_counts_14 rfl (lv_at hl 1 rfl) ?_
    obtain ⟨g9, e8⟩ := (show okI cy 30 (f 23) from hT.1 23 (by decide))
    refine va_iald hx hb hK hP 23 0 (wl_at (by decide) e8) rfl (vp_in_iff.mpr ⟨by omega, by omega⟩) dX7_counts_15 ?_
    refine lv_topi (fun x10 ex10 => ?_)
    refine lv_iconst (v := (-1)) hx hb dX7_counts_16 (by decide) ?_
    have ttl_m1 := tl_m1
    refine lv_icmp_eq (tgt := 30) hx hb dX7_counts_17 (by decide) (fun c11 => ?_) (fun c11 => ?_)
    · have kc11 := c_eq c11
      exact j30 H locs ls (by omega) hP hD hS (lv_sub hl [0, 1, 2] rfl)
    · have kc11 := c_ne c11
      refine lv_aload_n hx hb dX7_counts_20 rfl (lv_at hl 0 rfl) ?_
      refine va_get (D := D) (cl := vwCl) (ci := 7) (v := .ref (ad 23)) (C := RX7) (T := TX7) (N := 5) hx hb hts in_X7_counts_X7 hown hK hP 19 (wl_at (by decide) e3) rfl 4 (by decide) (hts (.fieldLink RX7 22 "EightReasons$Witness" "untoldAt" "[I") (List.mem_of_getElem? (i := 2) rfl)) (fun _ h9 => h9) rfl dX7_counts_21 ?_
      refine lv_iload_n hx hb dX7_counts_24 rfl (lv_at hl 1 rfl) ?_
      refine va_iald hx hb hK hP 23 0 (wl_at (by decide) e8) rfl (vp_in_iff.mpr ⟨by omega, by omega⟩) dX7_counts_25 ?_
      refine lv_topi (fun x12 ex12 => ?_)
      refine lv_iload_n hx hb dX7_counts_26 rfl (lv_at hl 2 rfl) ?_
      refine lv_icmp_le (tgt := 34) hx hb dX7_counts_27 (by decide) (fun c13 => ?_) (fun c13 => ?_)
      · have kc13 := c_le c13
        refine lv_iconst (v := 0) hx hb dX7_counts_34 (by decide) ?_
        have ttl_0 := tl_0
        exact tI hx hb hr hlk rfl hP hS ⟨(Or.inr rfl), rfl⟩ dX7_counts_35
      · have kc13 := c_nle c13
        exact j30 H locs ls (by omega) hP hD hS (lv_sub hl [0, 1, 2] rfl)
set_option maxHeartbeats 4000000 in
set_option maxRecDepth 100000 in
theorem s_X7_fits_0 (l : Launch) (B0 : Nat) (adK adV : Nat → Nat) (D : va_G) (cy : Nat → ClassId) (ad : Nat → Nat) (fr0 : Nat → va_E) (tx : Int32) (rby : Int32) (rnx : Int32) (f : Nat → va_E) (hT : TYx ad cy fr0 tx rby rnx f) (p1 : Int32) (p2 : Int32) (sz : Nat) : TtI l yX7_fits wsX7_fits 1 22 [.ref (ad 19), .int p1, .int p2] B0 adK adV D cy ad f sz (fun (r : Int32) (g : Nat → va_E) => ((r = 1) ∨ (r = 0)) ∧ (f = g)) := by
  refine TtI.of (cc := cX7_fits) (maxL := 4) (ty := .boolean) (own := RX7) (by decide) rfl (Nat.le_of_ble_eq_true rfl) rfl ?_
  intro p e s m below meth c A ls hx hb hr hml hts hown hlk hK hE hP hD hS hA hAB hl
  have hl : lv_has ls 4 [(0, .ref (ad 19)), (1, .int p1), (2, .int p2)] := hl
  refine st0 (fun H locs hP hS => ?_) hP hS
  have j2 : ∀ (N : Nat) (H : Heap) (locs : List Loc) (ls : Array Slot) (v2_l3 : Int32), (31 - v2_l3.toInt ≤ (N : Int)) → (0 ≤ v2_l3.toInt ∧ v2_l3.toInt ≤ 30) → (va_P D vwCl (wl ad f) H) → (va_D A (wl ad f)) → (va_S A s.heap H locs) → (lv_has ls 4 [(3, .int v2_l3), (0, .ref (ad 19)), (1, .int p1), (2, .int p2)]) → W p l e (rmO 1 22 0 0) s m ([.ref (ad 19), .int p1, .int p2] : List Value).toArray below meth c H locs 0 0 (MQ below (va_Qi (fun (r : Int32) (g : Nat → va_E) => ((r = 1) ∨ (r = 0)) ∧ (f = g)) (fun g t => PstT D ad g t) A) ([.ref (ad 19), .int p1, .int p2] : List Value).toArray s 0 0 A) (F0 m 2 ls []) := by
    intro N
    induction N with
    | zero => intro H locs ls v2_l3 hN hv2_l3 hP hD hS hl; exact absurd hN (by omega)
    | succ N ih2 =>
      intro H locs ls v2_l3 hN hv2_l3 hP hD hS hl
      have j40 : ∀ (H : Heap) (locs : List Loc) (ls : Array Slot), (0 ≤ v2_l3.toInt ∧ v2_l3.toInt ≤ 29) → (va_P D vwCl (wl ad f) H) → (va_D A (wl ad f)) → (va_S A s.heap H locs) → (lv_has ls 4 [(3, .int v2_l3), (0, .ref (ad 19)), (1, .int p1), (2, .int p2)]) → W p l e (rmO 1 22 0 0) s m ([.ref (ad 19), .int p1, .int p2] : List Value).toArray below meth c H locs 0 0 (MQ below (va_Qi (fun (r : Int32) (g : Nat → va_E) => ((r = 1) ∨ (r = 0)) ∧ (f = g)) (fun g t => PstT D ad g t) A) ([.ref (ad 19), .int p1, .int p2] : List Value).toArray s 0 0 A) (F0 m 40 ls []) := by
        intro H locs ls hv40_l3 hP hD hS hl
        obtain ⟨x1, ex1⟩ : ∃ q : Int32, q = v2_l3 + Int32.ofInt (1) := ⟨_, rfl⟩
        refine lv_iinc (v := x1) (lv' := [(3, .int x1), (0, .ref (ad 19)), (1, .int p1), (2, .int p2)]) hx hb dX7_fits_40 hl (k := 0) rfl ex1.symm (by decide) rfl (fun ls hl => ?_)
        have hx1 := r_inc ex1 (by decide) (by omega) (by omega)
        refine lv_goto (tgt := 2) hx hb dX7_fits_43 (by decide) ?_
        exact ih2 H locs ls x1 (by omega) (by omega) hP hD hS (lv_sub hl [0, 1, 2, 3] rfl)
      refine lv_iload_n hx hb dX7_fits_2 rfl (lv_at hl 0 rfl) ?_
      refine lv_aload_n hx hb dX7_fits_3 rfl (lv_at hl 1 rfl) ?_
      obtain ⟨x2, e4, h3⟩ := (show okX7 ad 19 (f 19) from hT.1 19 (by decide))
      refine va_get (D := D) (cl := vwCl) (ci := 7) (v := .int x2) (C := RX7) (T := TX7) (N := 5) hx hb hts in_X7_fits_X7 hown hK hP 19 (wl_at (by decide) e4) rfl 0 (by decide) (hts (.fieldLink RX7 25 "EightReasons$Witness" "count" "I") (List.mem_of_getElem? (i := 1) rfl)) (fun _ h9 => h9) rfl dX7_fits_4 ?_
      refine lv_icmp_ge (tgt := 46) hx hb dX7_fits_7 (by decide) (fun c5 => ?_) (fun c5 => ?_)
      · have kc5 := c_le c5
        refine lv_iconst (v := 1) hx hb dX7_fits_46 (by decide) ?_
        have ttl_1 := tl_1
        exact tI hx hb hr hlk rfl hP hS ⟨(Or.inl rfl), rfl⟩ dX7_fits_47
      · have kc5 := c_nle c5
        refine lv_aload_n hx hb dX7_fits_10 rfl (lv_at hl 1 rfl) ?_
        refine lv_iload_n hx hb dX7_fits_11 rfl (lv_at hl 0 rfl) ?_
        refine lv_iload_n hx hb dX7_fits_12 rfl (lv_at hl 3 rfl) ?_
        refine tVI (As := [.int v2_l3, .int p2]) (rest := []) (i := 19) ⟨hx, hb, hml, hown, hts⟩ hK hE hP hD hS hA hAB (s_X7_counts_0 l B0 adK adV D cy ad fr0 tx rby rnx f hT v2_l3 (by omega) p2 _) (cwV 2 hts gX7_fits_X7_counts rfl rfl rfl (by decide +kernel) ⟨Nat.le_of_ble_eq_true rfl, Nat.le_of_ble_eq_true rfl⟩) (by decide) 7 e4 rfl rfl hl.1 rfl (Nat.le_of_ble_eq_true rfl) dX7_fits_13 ⟨Nat.le_of_ble_eq_true rfl, Nat.le_of_ble_eq_true rfl⟩ (fun r g H locs hw hP hD hS => ?_)
        obtain ⟨hrs, rfl⟩ := hw
        obtain ⟨x6, rfl⟩ : ∃ q, q = r := ⟨_, rfl⟩
        rcases hrs with rfl | rfl
        · refine lv_if_eq (tgt := 40) hx hb dX7_fits_16 (by decide) (fun c => absurd c (by decide)) (fun _ => ?_)
          refine lv_iload_n hx hb dX7_fits_19 rfl (lv_at hl 2 rfl) ?_
          refine lv_aload_n hx hb dX7_fits_20 rfl (lv_at hl 1 rfl) ?_
          refine va_get (D := D) (cl := vwCl) (ci := 7) (v := .ref (ad 20)) (C := RX7) (T := TX7) (N := 5) hx hb hts in_X7_fits_X7 hown hK hP 19 (wl_at (by decide) e4) rfl 1 (by decide) (hts (.fieldLink RX7 9 "EightReasons$Witness" "claims" "[I") (List.mem_of_getElem? (i := 2) rfl)) (fun _ h9 => h9) rfl dX7_fits_21 ?_
          refine lv_iload_n hx hb dX7_fits_24 rfl (lv_at hl 0 rfl) ?_
          obtain ⟨g8, e7⟩ := (show okI cy 30 (f 20) from hT.1 20 (by decide))
          refine va_iald hx hb hK hP 20 0 (wl_at (by decide) e7) rfl (vp_in_iff.mpr ⟨by omega, by omega⟩) dX7_fits_25 ?_
          refine lv_topi (fun x9 ex9 => ?_)
          refine tNI (As := [.int p1, .int x9]) (rest := []) (host := RX8) ⟨hx, hb, hml, hown, hts⟩ hK hE hP hD hS hA hAB (s_X8_has_0 l B0 adK adV D cy ad f p1 x9 _) ⟨va_cnB 2 hts gX7_fits_X8_has_n33 rfl rfl rfl (hE.2.1 _ (List.mem_of_getElem? (i := 14) rfl)) (hts (.initialized RX8) (List.mem_of_getElem? (i := 12) rfl)) (by decide +kernel) ⟨Nat.le_of_ble_eq_true rfl, Nat.le_of_ble_eq_true rfl⟩, (hts (.static yX8_has) (List.mem_of_getElem? (i := 11) rfl)), trivial⟩ rfl hl.1 rfl (Nat.le_of_ble_eq_true rfl) dX7_fits_26 ⟨Nat.le_of_ble_eq_true rfl, Nat.le_of_ble_eq_true rfl⟩ (fun r g H locs hw hP hD hS => ?_)
          obtain ⟨hrs, rfl⟩ := hw
          obtain ⟨x10, rfl⟩ : ∃ q, q = r := ⟨_, rfl⟩
          rcases hrs with rfl | rfl
          · refine lv_aload_n hx hb dX7_fits_29 rfl (lv_at hl 1 rfl) ?_
            refine va_get (D := D) (cl := vwCl) (ci := 7) (v := .ref (ad 21)) (C := RX7) (T := TX7) (N := 5) hx hb hts in_X7_fits_X7 hown hK hP 19 (wl_at (by decide) e4) rfl 2 (by decide) (hts (.fieldLink RX7 15 "EightReasons$Witness" "stood" "[Z") (List.mem_of_getElem? (i := 3) rfl)) (fun _ h9 => h9) rfl dX7_fits_30 ?_
            refine lv_iload_n hx hb dX7_fits_33 rfl (lv_at hl 0 rfl) ?_
            obtain ⟨g12, e11⟩ := (show okZ cy 30 (f 21) from hT.1 21 (by decide))
            refine va_zald hx hb hK hP 21 3 (wl_at (by decide) e11) rfl (vp_in_iff.mpr ⟨by omega, by omega⟩) dX7_fits_34 ?_
            refine lv_topi (fun x13 ex13 => ?_)
            have ttl_1 := tl_1
            refine lv_icmp_eq (tgt := 40) hx hb dX7_fits_35 (by decide) (fun c14 => ?_) (fun c14 => ?_)
            · have kc14 := c_eq c14
              exact j40 H locs ls (by omega) hP hD hS (lv_sub hl [0, 1, 2, 3] rfl)
            · have kc14 := c_ne c14
              refine lv_iconst (v := 0) hx hb dX7_fits_38 (by decide) ?_
              have ttl_0 := tl_0
              exact tI hx hb hr hlk rfl hP hS ⟨(Or.inr rfl), rfl⟩ dX7_fits_39
          · refine lv_aload_n hx hb dX7_fits_29 rfl (lv_at hl 1 rfl) ?_
            refine va_get (D := D) (cl := vwCl) (ci := 7) (v := .ref (ad 21)) (C := RX7) (T := TX7) (N := 5) hx hb hts in_X7_fits_X7 hown hK hP 19 (wl_at (by decide) e4) rfl 2 (by decide) (hts (.fieldLink RX7 15 "EightReasons$Witness" "stood" "[Z") (List.mem_of_getElem? (i := 3) rfl)) (fun _ h9 => h9) rfl dX7_fits_30 ?_
            refine lv_iload_n hx hb dX7_fits_33 rfl (lv_at hl 0 rfl) ?_
            obtain ⟨g16, e15⟩ := (show okZ cy 30 (f 21) from hT.1 21 (by decide))
            refine va_zald hx hb hK hP 21 3 (wl_at (by decide) e15) rfl (vp_in_iff.mpr ⟨by omega, by omega⟩) dX7_fits_34 ?_
            refine lv_topi (fun x17 ex17 => ?_)
            have ttl_0 := tl_0
            refine lv_icmp_eq (tgt := 40) hx hb dX7_fits_35 (by decide) (fun c18 => ?_) (fun c18 => ?_)
            · have kc18 := c_eq c18
              exact j40 H locs ls (by omega) hP hD hS (lv_sub hl [0, 1, 2, 3] rfl)
            · have kc18 := c_ne c18
              refine lv_iconst (v := 0) hx hb dX7_fits_38 (by decide) ?_
              exact tI hx hb hr hlk rfl hP hS ⟨(Or.inr rfl), rfl⟩ dX7_fits_39
        · refine lv_if_eq (tgt := 40) hx hb dX7_fits_16 (by decide) (fun _ => ?_) (fun c => absurd (by decide) c)
          exact j40 H locs ls (by omega) hP hD hS (lv_sub hl [0, 1, 2, 3] rfl)
  refine lv_iconst (v := 0) hx hb dX7_fits_0 (by decide) ?_
  refine lv_istore_n (lv' := [(3, .int 0), (0, .ref (ad 19)), (1, .int p1), (2, .int p2)]) hx hb dX7_fits_1 rfl hl (by decide) rfl (fun ls hl => ?_)
  have ttl_0 := tl_0
  exact j2 (Int.toNat (31 - (0 : Int32).toInt)) H locs ls (0 : Int32) (by omega) (by omega) hP hD hS (lv_sub hl [0, 1, 2, 3] rfl)
set_option maxHeartbeats 4000000 in
set_option maxRecDepth 100000 in
theorem s_X6_collect_0 (l : Launch) (B0 : Nat) (adK adV : Nat → Nat) (D : va_G) (cy : Nat → ClassId) (ad : Nat → Nat) (fr0 : Nat → va_E) (tx : Int32) (rby : Int32) (rnx : Int32) (f : Nat → va_E) (hT : TYx ad cy fr0 tx rby rnx f) (p2 : Int32) (hp2 : 0 ≤ p2.toInt ∧ p2.toInt ≤ 4095) (p4 : Int32) (sz : Nat) : TtV l yX6_collect wsX6_collect 5 124 [.ref (ad 24), .ref (ad 10), .int p2, .ref (ad 19), .int p4] B0 adK adV D cy ad f sz (fun (g : Nat → va_E) => True ∧ (TYx ad cy fr0 tx rby rnx g)) := by
  refine TtV.of (cc := cX6_collect) (maxL := 7) (own := RX6) (by decide) rfl (Nat.le_of_ble_eq_true rfl) rfl ?_
  intro p e s m below meth c A ls hx hb hr hml hts hown hlk hK hE hP hD hS hA hAB hl
  have hl : lv_has ls 7 [(0, .ref (ad 24)), (1, .ref (ad 10)), (2, .int p2), (3, .ref (ad 19)), (4, .int p4)] := hl
  refine st0 (fun H locs hP hS => ?_) hP hS
  have j8 : ∀ (N : Nat) (f : Nat → va_E) (H : Heap) (locs : List Loc) (ls : Array Slot) (v8_l5 : Int32), (4097 - v8_l5.toInt ≤ (N : Int)) → (0 ≤ v8_l5.toInt ∧ v8_l5.toInt ≤ 4096) → (0 ≤ p2.toInt ∧ p2.toInt ≤ 4095) → (TYx ad cy fr0 tx rby rnx f) → (va_P D vwCl (wl ad f) H) → (va_D A (wl ad f)) → (va_S A s.heap H locs) → (lv_has ls 7 [(5, .int v8_l5), (0, .ref (ad 24)), (1, .ref (ad 10)), (2, .int p2), (3, .ref (ad 19)), (4, .int p4)]) → W p l e (rmO 5 124 0 0) s m ([.ref (ad 24), .ref (ad 10), .int p2, .ref (ad 19), .int p4] : List Value).toArray below meth c H locs 0 0 (MQ below (va_Qv (fun (g : Nat → va_E) => True ∧ (TYx ad cy fr0 tx rby rnx g)) (fun g t => PstT D ad g t) A) ([.ref (ad 24), .ref (ad 10), .int p2, .ref (ad 19), .int p4] : List Value).toArray s 0 0 A) (F0 m 8 ls []) := by
    intro N
    induction N with
    | zero => intro f H locs ls v8_l5 hN hv8_l5 hv8_l2 hT hP hD hS hl; exact absurd hN (by omega)
    | succ N ih8 =>
      intro f H locs ls v8_l5 hN hv8_l5 hv8_l2 hT hP hD hS hl
      have j52 : ∀ (f : Nat → va_E) (H : Heap) (locs : List Loc) (ls : Array Slot), (0 ≤ v8_l5.toInt ∧ v8_l5.toInt ≤ 4095) → (0 ≤ p2.toInt ∧ p2.toInt ≤ 4095) → (TYx ad cy fr0 tx rby rnx f) → (va_P D vwCl (wl ad f) H) → (va_D A (wl ad f)) → (va_S A s.heap H locs) → (lv_has ls 7 [(5, .int v8_l5), (0, .ref (ad 24)), (1, .ref (ad 10)), (2, .int p2), (3, .ref (ad 19)), (4, .int p4)]) → W p l e (rmO 5 124 0 0) s m ([.ref (ad 24), .ref (ad 10), .int p2, .ref (ad 19), .int p4] : List Value).toArray below meth c H locs 0 0 (MQ below (va_Qv (fun (g : Nat → va_E) => True ∧ (TYx ad cy fr0 tx rby rnx g)) (fun g t => PstT D ad g t) A) ([.ref (ad 24), .ref (ad 10), .int p2, .ref (ad 19), .int p4] : List Value).toArray s 0 0 A) (F0 m 52 ls []) := by
        intro f H locs ls hv52_l5 hv52_l2 hT hP hD hS hl
        obtain ⟨x1, ex1⟩ : ∃ q : Int32, q = v8_l5 + Int32.ofInt (1) := ⟨_, rfl⟩
        refine lv_iinc (v := x1) (lv' := [(5, .int x1), (0, .ref (ad 24)), (1, .ref (ad 10)), (2, .int p2), (3, .ref (ad 19)), (4, .int p4)]) hx hb dX6_collect_52 hl (k := 0) rfl ex1.symm (by decide) rfl (fun ls hl => ?_)
        have hx1 := r_inc ex1 (by decide) (by omega) (by omega)
        refine lv_goto (tgt := 8) hx hb dX6_collect_55 (by decide) ?_
        exact ih8 f H locs ls x1 (by omega) (by omega) (by omega) hT hP hD hS (lv_sub hl [0, 1, 2, 3, 4, 5] rfl)
      refine lv_iload hx hb dX6_collect_8 (lv_at hl 0 rfl) ?_
      refine lv_iload_n hx hb dX6_collect_10 rfl (lv_at hl 3 rfl) ?_
      refine lv_icmp_gt (tgt := 58) hx hb dX6_collect_11 (by decide) (fun c2 => ?_) (fun c2 => ?_)
      · have kc2 := c_lt c2
        exact tV hx hb hr hlk hP hS ⟨trivial, hT⟩ dX6_collect_58
      · have kc2 := c_nlt c2
        refine lv_iload hx hb dX6_collect_14 (lv_at hl 0 rfl) ?_
        refine tSI (As := [.int v8_l5]) (rest := []) ⟨hx, hb, hml, hown, hts⟩ hK hE hP hD hS hA hAB (s_J6_bitCount_0f7a4_0 l B0 adK adV D cy ad f v8_l5 _) (va_cwS 1 hts gX6_collect_J6_bitCount_0f7a4 rfl rfl rfl (by decide +kernel) ⟨Nat.le_of_ble_eq_true rfl, Nat.le_of_ble_eq_true rfl⟩) rfl hl.1 rfl (Nat.le_of_ble_eq_true rfl) dX6_collect_16 ⟨Nat.le_of_ble_eq_true rfl, Nat.le_of_ble_eq_true rfl⟩ (fun r g H locs hw hP hD hS => ?_)
        obtain ⟨hrs, rfl⟩ := hw
        obtain ⟨x3, rfl⟩ : ∃ q, q = r := ⟨_, rfl⟩
        have h4 := hrs
        refine lv_iconst (v := 2) hx hb dX6_collect_19 (by decide) ?_
        have ttl_2 := tl_2
        refine lv_icmp_gt (tgt := 52) hx hb dX6_collect_20 (by decide) (fun c5 => ?_) (fun c5 => ?_)
        · have kc5 := c_lt c5
          exact j52 f H locs ls (by omega) (by omega) hT hP hD hS (lv_sub hl [0, 1, 2, 3, 4, 5] rfl)
        · have kc5 := c_nlt c5
          refine lv_aload_n hx hb dX6_collect_23 rfl (lv_at hl 2 rfl) ?_
          refine lv_iload_n hx hb dX6_collect_24 rfl (lv_at hl 3 rfl) ?_
          refine lv_iload hx hb dX6_collect_25 (lv_at hl 0 rfl) ?_
          refine lv_ixor hx hb dX6_collect_27 ?_
          refine lv_topi (fun x6 ex6 => ?_)
          have hx6 := r_xor (k := 12) (K := 4096) ex6 (by decide) (by decide) (by omega) (by omega) (by omega) (by omega)
          obtain ⟨x7, t8, x10, x11, e12, h9⟩ := (show okX2 ad 10 (f 10) from hT.1 10 (by decide))
          refine tVI (As := [.int x6]) (rest := []) (i := 10) ⟨hx, hb, hml, hown, hts⟩ hK hE hP hD hS hA hAB (s_X2_standing_0 l B0 adK adV D cy ad fr0 tx rby rnx f hT x6 _) (cwV 1 hts gX6_collect_X2_standing rfl rfl rfl (by decide +kernel) ⟨Nat.le_of_ble_eq_true rfl, Nat.le_of_ble_eq_true rfl⟩) (by decide) 2 e12 rfl rfl hl.1 rfl (Nat.le_of_ble_eq_true rfl) dX6_collect_28 ⟨Nat.le_of_ble_eq_true rfl, Nat.le_of_ble_eq_true rfl⟩ (fun r f H locs hw hP hD hS => ?_)
          obtain ⟨hrs, hT⟩ := hw
          obtain ⟨x13, rfl⟩ : ∃ q, q = r := ⟨_, rfl⟩
          have h14 := hrs
          refine lv_istore (lv' := [(6, .int x13), (5, .int v8_l5), (0, .ref (ad 24)), (1, .ref (ad 10)), (2, .int p2), (3, .ref (ad 19)), (4, .int p4)]) hx hb dX6_collect_31 hl (by decide) rfl (fun ls hl => ?_)
          refine lv_aload_n hx hb dX6_collect_33 rfl (lv_at hl 5 rfl) ?_
          refine lv_iload hx hb dX6_collect_34 (lv_at hl 0 rfl) ?_
          refine lv_iload hx hb dX6_collect_36 (lv_at hl 6 rfl) ?_
          obtain ⟨x15, e17, h16⟩ := (show okX7 ad 19 (f 19) from hT.1 19 (by decide))
          refine tVI (As := [.int x13, .int p4]) (rest := []) (i := 19) ⟨hx, hb, hml, hown, hts⟩ hK hE hP hD hS hA hAB (s_X7_fits_0 l B0 adK adV D cy ad fr0 tx rby rnx f hT x13 p4 _) (cwV 2 hts gX6_collect_X7_fits rfl rfl rfl (by decide +kernel) ⟨Nat.le_of_ble_eq_true rfl, Nat.le_of_ble_eq_true rfl⟩) (by decide) 7 e17 rfl rfl hl.1 rfl (Nat.le_of_ble_eq_true rfl) dX6_collect_38 ⟨Nat.le_of_ble_eq_true rfl, Nat.le_of_ble_eq_true rfl⟩ (fun r g H locs hw hP hD hS => ?_)
          obtain ⟨hrs, rfl⟩ := hw
          obtain ⟨x18, rfl⟩ : ∃ q, q = r := ⟨_, rfl⟩
          rcases hrs with rfl | rfl
          · refine lv_if_eq (tgt := 52) hx hb dX6_collect_41 (by decide) (fun c => absurd c (by decide)) (fun _ => ?_)
            refine lv_aload_n hx hb dX6_collect_44 rfl (lv_at hl 2 rfl) ?_
            refine lv_iload hx hb dX6_collect_45 (lv_at hl 1 rfl) ?_
            refine lv_iload hx hb dX6_collect_47 (lv_at hl 0 rfl) ?_
            obtain ⟨x19, e21, h20⟩ := (show okX6 ad 24 (f 24) from hT.1 24 (by decide))
            refine tVV (As := [.int v8_l5, .int x13]) (rest := []) (i := 24) ⟨hx, hb, hml, hown, hts⟩ hK hE hP hD hS hA hAB (s_X6_keep_0 l B0 adK adV D cy ad fr0 tx rby rnx f hT v8_l5 (by omega) x13 _) (cwV 2 hts gX6_collect_X6_keep rfl rfl rfl (by decide +kernel) ⟨Nat.le_of_ble_eq_true rfl, Nat.le_of_ble_eq_true rfl⟩) (by decide) 6 e21 rfl rfl hl.1 rfl (Nat.le_of_ble_eq_true rfl) dX6_collect_49 ⟨Nat.le_of_ble_eq_true rfl, Nat.le_of_ble_eq_true rfl⟩ (fun f H locs hw hP hD hS => ?_)
            obtain ⟨hrs, hT⟩ := hw
            exact j52 f H locs ls (by omega) (by omega) hT hP hD hS (lv_sub hl [1, 2, 3, 4, 5, 6] rfl)
          · refine lv_if_eq (tgt := 52) hx hb dX6_collect_41 (by decide) (fun _ => ?_) (fun c => absurd (by decide) c)
            exact j52 f H locs ls (by omega) (by omega) hT hP hD hS (lv_sub hl [1, 2, 3, 4, 5, 6] rfl)
  refine lv_aload_n hx hb dX6_collect_0 rfl (lv_at hl 0 rfl) ?_
  refine lv_iconst (v := 0) hx hb dX6_collect_1 (by decide) ?_
  obtain ⟨x22, e24, h23⟩ := (show okX6 ad 24 (f 24) from hT.1 24 (by decide))
  refine va_put (D := D) (cl := vwCl) (ci := 6) (v := .int 0) (ty := tyX6 0) (C := RX6) (T := TX6) (N := 3) hx hb hts in_X6_collect_X6 tyX6 tyX6_ok nmX6 hown hK hP hD hS 24 (wl_at (by decide) e24) rfl 0 (by decide) (hts (.fieldLink RX6 18 "EightReasons$Ways" "count" "I") (List.mem_of_getElem? (i := 1) rfl)) (fun _ h9 => h9) rfl (tyX6_ok 0 (by decide)) rfl rfl (Nat.le_of_ble_eq_true rfl) dX6_collect_2 (fun H locs hP hD hS => ?_)
  have ttl_0 := tl_0
  obtain ⟨f, hT, hP, hD, e25, hj26⟩ := stU (by decide) (TYx.up hT (by decide) (show OKx ad cy tx rby rnx 24 _ from (show okX6 ad 24 _ from ⟨(0 : Int32), rfl, by omega⟩))) hP hD
  refine lv_iconst (v := 0) hx hb dX6_collect_5 (by decide) ?_
  refine lv_istore (lv' := [(5, .int 0), (0, .ref (ad 24)), (1, .ref (ad 10)), (2, .int p2), (3, .ref (ad 19)), (4, .int p4)]) hx hb dX6_collect_6 hl (by decide) rfl (fun ls hl => ?_)
  exact j8 (Int.toNat (4097 - (0 : Int32).toInt)) f H locs ls (0 : Int32) (by omega) (by omega) (by omega) hT hP hD hS (lv_sub hl [0, 1, 2, 3, 4, 5] rfl)
set_option maxHeartbeats 4000000 in
set_option maxRecDepth 100000 in
theorem s_X8_findWays_0 (l : Launch) (B0 : Nat) (adK adV : Nat → Nat) (D : va_G) (cy : Nat → ClassId) (ad : Nat → Nat) (fr0 : Nat → va_E) (tx : Int32) (rby : Int32) (rnx : Int32) (f : Nat → va_E) (hT : TYx ad cy fr0 tx rby rnx f) (p1 : Int32) (sz : Nat) : TtV l yX8_findWays wsX8_findWays 6 150 [.ref (ad 0), .int p1] B0 adK adV D cy ad f sz (fun (g : Nat → va_E) => True ∧ (TYx ad cy fr0 tx rby rnx g)) := by
  refine TtV.of (cc := cX8_findWays) (maxL := 2) (own := RX8) (by decide) rfl (Nat.le_of_ble_eq_true rfl) rfl ?_
  intro p e s m below meth c A ls hx hb hr hml hts hown hlk hK hE hP hD hS hA hAB hl
  have hl : lv_has ls 2 [(0, .ref (ad 0)), (1, .int p1)] := hl
  refine st0 (fun H locs hP hS => ?_) hP hS
  refine lv_aload_n hx hb dX8_findWays_0 rfl (lv_at hl 0 rfl) ?_
  obtain ⟨t1, x3, x4, e6, h2, h5⟩ := (show okX8 ad tx 0 (f 0) from hT.1 0 (by decide))
  refine va_get (D := D) (cl := vwCl) (ci := 8) (v := .ref (ad 7)) (C := RX8) (T := TX8) (N := 13) hx hb hts in_X8_findWays_X8 hown hK hP 0 (wl_at (by decide) e6) rfl 3 (by decide) (hts (.fieldLink RX8 33 "EightReasons" "trial" "LEightReasons$State;") (List.mem_of_getElem? (i := 1) rfl)) (fun _ h9 => h9) rfl dX8_findWays_1 ?_
  refine lv_aload_n hx hb dX8_findWays_4 rfl (lv_at hl 0 rfl) ?_
  refine va_get (D := D) (cl := vwCl) (ci := 8) (v := .ref (ad t1)) (C := RX8) (T := TX8) (N := 13) hx hb hts in_X8_findWays_X8 hown hK hP 0 (wl_at (by decide) e6) rfl 1 (by decide) (hts (.fieldLink RX8 19 "EightReasons" "told" "LEightReasons$Suit;") (List.mem_of_getElem? (i := 2) rfl)) (fun _ h9 => h9) rfl dX8_findWays_5 ?_
  obtain ⟨x7, x9, x10, x11, e12, h8⟩ := (show okX4 ad 7 (f 7) from hT.1 7 (by decide))
  refine tVV (As := [.ref (ad t1)]) (rest := []) (i := 7) ⟨hx, hb, hml, hown, hts⟩ hK hE hP hD hS hA hAB (s_X4_startAs_1 l B0 adK adV D cy ad fr0 tx rby rnx f hT t1 h2 _) (cwV 1 hts gX8_findWays_X4_startAs rfl rfl rfl (by decide +kernel) ⟨Nat.le_of_ble_eq_true rfl, Nat.le_of_ble_eq_true rfl⟩) (by decide) 4 e12 rfl rfl hl.1 rfl (Nat.le_of_ble_eq_true rfl) dX8_findWays_8 ⟨Nat.le_of_ble_eq_true rfl, Nat.le_of_ble_eq_true rfl⟩ (fun f H locs hw hP hD hS => ?_)
  obtain ⟨hrs, hT⟩ := hw
  refine lv_aload_n hx hb dX8_findWays_11 rfl (lv_at hl 0 rfl) ?_
  obtain ⟨t13, x15, x16, e18, h14, h17⟩ := (show okX8 ad tx 0 (f 0) from hT.1 0 (by decide))
  refine va_get (D := D) (cl := vwCl) (ci := 8) (v := .ref (ad 10)) (C := RX8) (T := TX8) (N := 13) hx hb hts in_X8_findWays_X8 hown hK hP 0 (wl_at (by decide) e18) rfl 6 (by decide) (hts (.fieldLink RX8 44 "EightReasons" "loom" "LEightReasons$Loom;") (List.mem_of_getElem? (i := 3) rfl)) (fun _ h9 => h9) rfl dX8_findWays_12 ?_
  refine lv_aload_n hx hb dX8_findWays_15 rfl (lv_at hl 0 rfl) ?_
  refine va_get (D := D) (cl := vwCl) (ci := 8) (v := .ref (ad t13)) (C := RX8) (T := TX8) (N := 13) hx hb hts in_X8_findWays_X8 hown hK hP 0 (wl_at (by decide) e18) rfl 1 (by decide) (hts (.fieldLink RX8 19 "EightReasons" "told" "LEightReasons$Suit;") (List.mem_of_getElem? (i := 2) rfl)) (fun _ h9 => h9) rfl dX8_findWays_16 ?_
  refine lv_aload_n hx hb dX8_findWays_19 rfl (lv_at hl 0 rfl) ?_
  refine va_get (D := D) (cl := vwCl) (ci := 8) (v := .ref (ad 7)) (C := RX8) (T := TX8) (N := 13) hx hb hts in_X8_findWays_X8 hown hK hP 0 (wl_at (by decide) e18) rfl 3 (by decide) (hts (.fieldLink RX8 33 "EightReasons" "trial" "LEightReasons$State;") (List.mem_of_getElem? (i := 1) rfl)) (fun _ h9 => h9) rfl dX8_findWays_20 ?_
  obtain ⟨x19, t20, x22, x23, e24, h21⟩ := (show okX2 ad 10 (f 10) from hT.1 10 (by decide))
  refine tVV (As := [.ref (ad t13), .ref (ad 7)]) (rest := []) (i := 10) ⟨hx, hb, hml, hown, hts⟩ hK hE hP hD hS hA hAB (s_X2_take_1 l B0 adK adV D cy ad fr0 tx rby rnx f hT t13 h14 _) (cwV 2 hts gX8_findWays_X2_take rfl rfl rfl (by decide +kernel) ⟨Nat.le_of_ble_eq_true rfl, Nat.le_of_ble_eq_true rfl⟩) (by decide) 2 e24 rfl rfl hl.1 rfl (Nat.le_of_ble_eq_true rfl) dX8_findWays_23 ⟨Nat.le_of_ble_eq_true rfl, Nat.le_of_ble_eq_true rfl⟩ (fun f H locs hw hP hD hS => ?_)
  obtain ⟨hrs, hT⟩ := hw
  refine lv_aload_n hx hb dX8_findWays_26 rfl (lv_at hl 0 rfl) ?_
  obtain ⟨t25, x27, x28, e30, h26, h29⟩ := (show okX8 ad tx 0 (f 0) from hT.1 0 (by decide))
  refine va_get (D := D) (cl := vwCl) (ci := 8) (v := .ref (ad 24)) (C := RX8) (T := TX8) (N := 13) hx hb hts in_X8_findWays_X8 hown hK hP 0 (wl_at (by decide) e30) rfl 11 (by decide) (hts (.fieldLink RX8 65 "EightReasons" "open" "LEightReasons$Ways;") (List.mem_of_getElem? (i := 4) rfl)) (fun _ h9 => h9) rfl dX8_findWays_27 ?_
  refine lv_aload_n hx hb dX8_findWays_30 rfl (lv_at hl 0 rfl) ?_
  refine va_get (D := D) (cl := vwCl) (ci := 8) (v := .ref (ad 10)) (C := RX8) (T := TX8) (N := 13) hx hb hts in_X8_findWays_X8 hown hK hP 0 (wl_at (by decide) e30) rfl 6 (by decide) (hts (.fieldLink RX8 44 "EightReasons" "loom" "LEightReasons$Loom;") (List.mem_of_getElem? (i := 3) rfl)) (fun _ h9 => h9) rfl dX8_findWays_31 ?_
  refine lv_aload_n hx hb dX8_findWays_34 rfl (lv_at hl 0 rfl) ?_
  refine va_get (D := D) (cl := vwCl) (ci := 8) (v := .ref (ad t25)) (C := RX8) (T := TX8) (N := 13) hx hb hts in_X8_findWays_X8 hown hK hP 0 (wl_at (by decide) e30) rfl 1 (by decide) (hts (.fieldLink RX8 19 "EightReasons" "told" "LEightReasons$Suit;") (List.mem_of_getElem? (i := 2) rfl)) (fun _ h9 => h9) rfl dX8_findWays_35 ?_
  obtain ⟨x31, x33, x34, x36, x37, e38, h32, h35⟩ := (ty_suit hT h26)
  refine tVI (As := []) (rest := [.ref (ad 10), .ref (ad 24)]) (i := t25) ⟨hx, hb, hml, hown, hts⟩ hK hE hP hD hS hA hAB (s_X5_allStrands_0 l B0 adK adV D cy ad fr0 tx rby rnx f hT t25 h26 _) (cwV 0 hts gX8_findWays_X5_allStrands rfl rfl rfl (by decide +kernel) ⟨Nat.le_of_ble_eq_true rfl, Nat.le_of_ble_eq_true rfl⟩) (x_lt (x_suit0 h26)) 5 e38 rfl rfl hl.1 rfl (Nat.le_of_ble_eq_true rfl) dX8_findWays_38 ⟨Nat.le_of_ble_eq_true rfl, Nat.le_of_ble_eq_true rfl⟩ (fun r g H locs hw hP hD hS => ?_)
  obtain ⟨hrs, rfl⟩ := hw
  obtain ⟨x39, rfl⟩ : ∃ q, q = r := ⟨_, rfl⟩
  have h40 := hrs
  refine lv_aload_n hx hb dX8_findWays_41 rfl (lv_at hl 0 rfl) ?_
  refine va_get (D := D) (cl := vwCl) (ci := 8) (v := .ref (ad 19)) (C := RX8) (T := TX8) (N := 13) hx hb hts in_X8_findWays_X8 hown hK hP 0 (wl_at (by decide) e30) rfl 10 (by decide) (hts (.fieldLink RX8 58 "EightReasons" "witness" "LEightReasons$Witness;") (List.mem_of_getElem? (i := 5) rfl)) (fun _ h9 => h9) rfl dX8_findWays_42 ?_
  refine lv_iload_n hx hb dX8_findWays_45 rfl (lv_at hl 1 rfl) ?_
  obtain ⟨x41, e43, h42⟩ := (show okX6 ad 24 (f 24) from hT.1 24 (by decide))
  refine tVV (As := [.ref (ad 10), .int x39, .ref (ad 19), .int p1]) (rest := []) (i := 24) ⟨hx, hb, hml, hown, hts⟩ hK hE hP hD hS hA hAB (s_X6_collect_0 l B0 adK adV D cy ad fr0 tx rby rnx f hT x39 (by omega) p1 _) (cwV 4 hts gX8_findWays_X6_collect rfl rfl rfl (by decide +kernel) ⟨Nat.le_of_ble_eq_true rfl, Nat.le_of_ble_eq_true rfl⟩) (by decide) 6 e43 rfl rfl hl.1 rfl (Nat.le_of_ble_eq_true rfl) dX8_findWays_46 ⟨Nat.le_of_ble_eq_true rfl, Nat.le_of_ble_eq_true rfl⟩ (fun f H locs hw hP hD hS => ?_)
  obtain ⟨hrs, hT⟩ := hw
  exact tV hx hb hr hlk hP hS ⟨trivial, hT⟩ dX8_findWays_49
set_option maxHeartbeats 4000000 in
set_option maxRecDepth 100000 in
theorem s_X8_ways_0 (l : Launch) (B0 : Nat) (adK adV : Nat → Nat) (D : va_G) (cy : Nat → ClassId) (ad : Nat → Nat) (fr0 : Nat → va_E) (tx : Int32) (rby : Int32) (rnx : Int32) (f : Nat → va_E) (hT : TYx ad cy fr0 tx rby rnx f) (p1 : Int32) (sz : Nat) : TtI l yX8_ways wsX8_ways 7 171 [.ref (ad 0), .int p1] B0 adK adV D cy ad f sz (fun (r : Int32) (g : Nat → va_E) => (0 ≤ r.toInt ∧ r.toInt ≤ 79) ∧ (TYx ad cy fr0 tx rby rnx g)) := by
  refine TtI.of (cc := cX8_ways) (maxL := 2) (ty := .int) (own := RX8) (by decide) rfl (Nat.le_of_ble_eq_true rfl) rfl ?_
  intro p e s m below meth c A ls hx hb hr hml hts hown hlk hK hE hP hD hS hA hAB hl
  have hl : lv_has ls 2 [(0, .ref (ad 0)), (1, .int p1)] := hl
  refine st0 (fun H locs hP hS => ?_) hP hS
  refine lv_aload_n hx hb dX8_ways_0 rfl (lv_at hl 0 rfl) ?_
  refine lv_iload_n hx hb dX8_ways_1 rfl (lv_at hl 1 rfl) ?_
  obtain ⟨t1, x3, x4, e6, h2, h5⟩ := (show okX8 ad tx 0 (f 0) from hT.1 0 (by decide))
  refine tVV (As := [.int p1]) (rest := []) (i := 0) ⟨hx, hb, hml, hown, hts⟩ hK hE hP hD hS hA hAB (s_X8_findWays_0 l B0 adK adV D cy ad fr0 tx rby rnx f hT p1 _) (cwV 1 hts gX8_ways_X8_findWays rfl rfl rfl (by decide +kernel) ⟨Nat.le_of_ble_eq_true rfl, Nat.le_of_ble_eq_true rfl⟩) (by decide) 8 e6 rfl rfl hl.1 rfl (Nat.le_of_ble_eq_true rfl) dX8_ways_2 ⟨Nat.le_of_ble_eq_true rfl, Nat.le_of_ble_eq_true rfl⟩ (fun f H locs hw hP hD hS => ?_)
  obtain ⟨hrs, hT⟩ := hw
  refine lv_aload_n hx hb dX8_ways_5 rfl (lv_at hl 0 rfl) ?_
  obtain ⟨t7, x9, x10, e12, h8, h11⟩ := (show okX8 ad tx 0 (f 0) from hT.1 0 (by decide))
  refine va_get (D := D) (cl := vwCl) (ci := 8) (v := .ref (ad 24)) (C := RX8) (T := TX8) (N := 13) hx hb hts in_X8_ways_X8 hown hK hP 0 (wl_at (by decide) e12) rfl 11 (by decide) (hts (.fieldLink RX8 65 "EightReasons" "open" "LEightReasons$Ways;") (List.mem_of_getElem? (i := 1) rfl)) (fun _ h9 => h9) rfl dX8_ways_6 ?_
  obtain ⟨x13, e15, h14⟩ := (show okX6 ad 24 (f 24) from hT.1 24 (by decide))
  refine va_get (D := D) (cl := vwCl) (ci := 6) (v := .int x13) (C := RX6) (T := TX6) (N := 3) hx hb hts in_X8_ways_X6 hown hK hP 24 (wl_at (by decide) e15) rfl 0 (by decide) (hts (.fieldLink RX8 344 "EightReasons$Ways" "count" "I") (List.mem_of_getElem? (i := 2) rfl)) (fun _ h9 => h9) rfl dX8_ways_9 ?_
  exact tI hx hb hr hlk rfl hP hS ⟨(by omega), hT⟩ dX8_ways_12
set_option maxHeartbeats 4000000 in
set_option maxRecDepth 100000 in
theorem s_X6_countIn_0 (l : Launch) (B0 : Nat) (adK adV : Nat → Nat) (D : va_G) (cy : Nat → ClassId) (ad : Nat → Nat) (fr0 : Nat → va_E) (tx : Int32) (rby : Int32) (rnx : Int32) (f : Nat → va_E) (hT : TYx ad cy fr0 tx rby rnx f) (p2 : Int32) (hp2 : 0 ≤ p2.toInt ∧ p2.toInt ≤ 11) (sz : Nat) : TtI l yX6_countIn wsX6_countIn 1 21 [.ref (ad 24), .ref (ad 25), .int p2] B0 adK adV D cy ad f sz (fun (r : Int32) (g : Nat → va_E) => True ∧ (f = g)) := by
  refine TtI.of (cc := cX6_countIn) (maxL := 5) (ty := .int) (own := RX6) (by decide) rfl (Nat.le_of_ble_eq_true rfl) rfl ?_
  intro p e s m below meth c A ls hx hb hr hml hts hown hlk hK hE hP hD hS hA hAB hl
  have hl : lv_has ls 5 [(0, .ref (ad 24)), (1, .ref (ad 25)), (2, .int p2)] := hl
  refine st0 (fun H locs hP hS => ?_) hP hS
  have j5 : ∀ (N : Nat) (H : Heap) (locs : List Loc) (ls : Array Slot) (v5_l4 : Int32) (v5_l3 : Int32), (80 - v5_l4.toInt ≤ (N : Int)) → (0 ≤ v5_l4.toInt ∧ v5_l4.toInt ≤ 79) → (0 ≤ p2.toInt ∧ p2.toInt ≤ 11) → (va_P D vwCl (wl ad f) H) → (va_D A (wl ad f)) → (va_S A s.heap H locs) → (lv_has ls 5 [(4, .int v5_l4), (3, .int v5_l3), (0, .ref (ad 24)), (1, .ref (ad 25)), (2, .int p2)]) → W p l e (rmO 1 21 0 0) s m ([.ref (ad 24), .ref (ad 25), .int p2] : List Value).toArray below meth c H locs 0 0 (MQ below (va_Qi (fun (r : Int32) (g : Nat → va_E) => True ∧ (f = g)) (fun g t => PstT D ad g t) A) ([.ref (ad 24), .ref (ad 25), .int p2] : List Value).toArray s 0 0 A) (F0 m 5 ls []) := by
    intro N
    induction N with
    | zero => intro H locs ls v5_l4 v5_l3 hN hv5_l4 hv5_l2 hP hD hS hl; exact absurd hN (by omega)
    | succ N ih5 =>
      intro H locs ls v5_l4 v5_l3 hN hv5_l4 hv5_l2 hP hD hS hl
      have j35 : ∀ (H : Heap) (locs : List Loc) (ls : Array Slot) (v35_l3 : Int32), (0 ≤ v5_l4.toInt ∧ v5_l4.toInt ≤ 78) → (0 ≤ p2.toInt ∧ p2.toInt ≤ 11) → (va_P D vwCl (wl ad f) H) → (va_D A (wl ad f)) → (va_S A s.heap H locs) → (lv_has ls 5 [(3, .int v35_l3), (4, .int v5_l4), (0, .ref (ad 24)), (1, .ref (ad 25)), (2, .int p2)]) → W p l e (rmO 1 21 0 0) s m ([.ref (ad 24), .ref (ad 25), .int p2] : List Value).toArray below meth c H locs 0 0 (MQ below (va_Qi (fun (r : Int32) (g : Nat → va_E) => True ∧ (f = g)) (fun g t => PstT D ad g t) A) ([.ref (ad 24), .ref (ad 25), .int p2] : List Value).toArray s 0 0 A) (F0 m 35 ls []) := by
        intro H locs ls v35_l3 hv35_l4 hv35_l2 hP hD hS hl
        obtain ⟨x1, ex1⟩ : ∃ q : Int32, q = v5_l4 + Int32.ofInt (1) := ⟨_, rfl⟩
        refine lv_iinc (v := x1) (lv' := [(4, .int x1), (3, .int v35_l3), (0, .ref (ad 24)), (1, .ref (ad 25)), (2, .int p2)]) hx hb dX6_countIn_35 hl (k := 1) rfl ex1.symm (by decide) rfl (fun ls hl => ?_)
        have hx1 := r_inc ex1 (by decide) (by omega) (by omega)
        refine lv_goto (tgt := 5) hx hb dX6_countIn_38 (by decide) ?_
        exact ih5 H locs ls x1 v35_l3 (by omega) (by omega) (by omega) hP hD hS (lv_sub hl [0, 1, 2, 3, 4] rfl)
      refine lv_iload hx hb dX6_countIn_5 (lv_at hl 0 rfl) ?_
      refine lv_aload_n hx hb dX6_countIn_7 rfl (lv_at hl 2 rfl) ?_
      obtain ⟨x2, e4, h3⟩ := (show okX6 ad 24 (f 24) from hT.1 24 (by decide))
      refine va_get (D := D) (cl := vwCl) (ci := 6) (v := .int x2) (C := RX6) (T := TX6) (N := 3) hx hb hts in_X6_countIn_X6 hown hK hP 24 (wl_at (by decide) e4) rfl 0 (by decide) (hts (.fieldLink RX6 18 "EightReasons$Ways" "count" "I") (List.mem_of_getElem? (i := 1) rfl)) (fun _ h9 => h9) rfl dX6_countIn_8 ?_
      refine lv_icmp_ge (tgt := 41) hx hb dX6_countIn_11 (by decide) (fun c5 => ?_) (fun c5 => ?_)
      · have kc5 := c_le c5
        refine lv_iload_n hx hb dX6_countIn_41 rfl (lv_at hl 1 rfl) ?_
        exact tI hx hb hr hlk rfl hP hS ⟨trivial, rfl⟩ dX6_countIn_42
      · have kc5 := c_nle c5
        refine lv_iload hx hb dX6_countIn_14 (lv_at hl 0 rfl) ?_
        refine lv_aload_n hx hb dX6_countIn_16 rfl (lv_at hl 3 rfl) ?_
        obtain ⟨g7, e6⟩ := (show okI cy 79 (f 25) from hT.1 25 (by decide))
        refine va_alen hx hb hK hP 25 0 (wl_at (by decide) e6) rfl (v := 79) rfl dX6_countIn_17 ?_
        have ttl_79 := tl_79
        refine lv_icmp_ge (tgt := 41) hx hb dX6_countIn_18 (by decide) (fun c8 => ?_) (fun c8 => ?_)
        · have kc8 := c_le c8
          exact absurd kc8 (by omega)
        · have kc8 := c_nle c8
          refine lv_aload_n hx hb dX6_countIn_21 rfl (lv_at hl 3 rfl) ?_
          refine lv_iload hx hb dX6_countIn_22 (lv_at hl 0 rfl) ?_
          refine va_iald hx hb hK hP 25 0 (wl_at (by decide) e6) rfl (vp_in_iff.mpr ⟨by omega, by omega⟩) dX6_countIn_24 ?_
          refine lv_topi (fun x9 ex9 => ?_)
          refine lv_iload_n hx hb dX6_countIn_25 rfl (lv_at hl 4 rfl) ?_
          refine tNI (As := [.int x9, .int p2]) (rest := []) (host := RX8) ⟨hx, hb, hml, hown, hts⟩ hK hE hP hD hS hA hAB (s_X8_has_0 l B0 adK adV D cy ad f x9 p2 _) ⟨va_cnB 2 hts gX6_countIn_X8_has_n53 rfl rfl rfl (hE.2.1 _ (List.mem_of_getElem? (i := 13) rfl)) (hts (.initialized RX8) (List.mem_of_getElem? (i := 3) rfl)) (by decide +kernel) ⟨Nat.le_of_ble_eq_true rfl, Nat.le_of_ble_eq_true rfl⟩, (hts (.static yX8_has) (List.mem_of_getElem? (i := 2) rfl)), trivial⟩ rfl hl.1 rfl (Nat.le_of_ble_eq_true rfl) dX6_countIn_26 ⟨Nat.le_of_ble_eq_true rfl, Nat.le_of_ble_eq_true rfl⟩ (fun r g H locs hw hP hD hS => ?_)
          obtain ⟨hrs, rfl⟩ := hw
          obtain ⟨x10, rfl⟩ : ∃ q, q = r := ⟨_, rfl⟩
          rcases hrs with rfl | rfl
          · refine lv_if_eq (tgt := 35) hx hb dX6_countIn_29 (by decide) (fun c => absurd c (by decide)) (fun _ => ?_)
            obtain ⟨x11, ex11⟩ : ∃ q : Int32, q = v5_l3 + Int32.ofInt (1) := ⟨_, rfl⟩
            refine lv_iinc (v := x11) (lv' := [(3, .int x11), (4, .int v5_l4), (0, .ref (ad 24)), (1, .ref (ad 25)), (2, .int p2)]) hx hb dX6_countIn_32 hl (k := 1) rfl ex11.symm (by decide) rfl (fun ls hl => ?_)
            exact j35 H locs ls x11 (by omega) (by omega) hP hD hS (lv_sub hl [0, 1, 2, 3, 4] rfl)
          · refine lv_if_eq (tgt := 35) hx hb dX6_countIn_29 (by decide) (fun _ => ?_) (fun c => absurd (by decide) c)
            exact j35 H locs ls v5_l3 (by omega) (by omega) hP hD hS (lv_sub hl [1, 0, 2, 3, 4] rfl)
  refine lv_iconst (v := 0) hx hb dX6_countIn_0 (by decide) ?_
  refine lv_istore_n (lv' := [(3, .int 0), (0, .ref (ad 24)), (1, .ref (ad 25)), (2, .int p2)]) hx hb dX6_countIn_1 rfl hl (by decide) rfl (fun ls hl => ?_)
  refine lv_iconst (v := 0) hx hb dX6_countIn_2 (by decide) ?_
  refine lv_istore (lv' := [(4, .int 0), (3, .int 0), (0, .ref (ad 24)), (1, .ref (ad 25)), (2, .int p2)]) hx hb dX6_countIn_3 hl (by decide) rfl (fun ls hl => ?_)
  have ttl_0 := tl_0
  exact j5 (Int.toNat (80 - (0 : Int32).toInt)) H locs ls (0 : Int32) (0 : Int32) (by omega) (by omega) (by omega) hP hD hS (lv_sub hl [0, 1, 2, 3, 4] rfl)
set_option maxHeartbeats 4000000 in
set_option maxRecDepth 100000 in
theorem s_X6_countCut_0 (l : Launch) (B0 : Nat) (adK adV : Nat → Nat) (D : va_G) (cy : Nat → ClassId) (ad : Nat → Nat) (fr0 : Nat → va_E) (tx : Int32) (rby : Int32) (rnx : Int32) (f : Nat → va_E) (hT : TYx ad cy fr0 tx rby rnx f) (p1 : Int32) (hp1 : 0 ≤ p1.toInt ∧ p1.toInt ≤ 11) (sz : Nat) : TtI l yX6_countCut wsX6_countCut 2 45 [.ref (ad 24), .int p1] B0 adK adV D cy ad f sz (fun (r : Int32) (g : Nat → va_E) => True ∧ (f = g)) := by
  refine TtI.of (cc := cX6_countCut) (maxL := 2) (ty := .int) (own := RX6) (by decide) rfl (Nat.le_of_ble_eq_true rfl) rfl ?_
  intro p e s m below meth c A ls hx hb hr hml hts hown hlk hK hE hP hD hS hA hAB hl
  have hl : lv_has ls 2 [(0, .ref (ad 24)), (1, .int p1)] := hl
  refine st0 (fun H locs hP hS => ?_) hP hS
  refine lv_aload_n hx hb dX6_countCut_0 rfl (lv_at hl 0 rfl) ?_
  refine lv_aload_n hx hb dX6_countCut_1 rfl (lv_at hl 0 rfl) ?_
  obtain ⟨x1, e3, h2⟩ := (show okX6 ad 24 (f 24) from hT.1 24 (by decide))
  refine va_get (D := D) (cl := vwCl) (ci := 6) (v := .ref (ad 25)) (C := RX6) (T := TX6) (N := 3) hx hb hts in_X6_countCut_X6 hown hK hP 24 (wl_at (by decide) e3) rfl 1 (by decide) (hts (.fieldLink RX6 9 "EightReasons$Ways" "cuts" "[I") (List.mem_of_getElem? (i := 1) rfl)) (fun _ h9 => h9) rfl dX6_countCut_2 ?_
  refine lv_iload_n hx hb dX6_countCut_5 rfl (lv_at hl 1 rfl) ?_
  refine tVI (As := [.ref (ad 25), .int p1]) (rest := []) (i := 24) ⟨hx, hb, hml, hown, hts⟩ hK hE hP hD hS hA hAB (s_X6_countIn_0 l B0 adK adV D cy ad fr0 tx rby rnx f hT p1 (by omega) _) (cwV 2 hts gX6_countCut_X6_countIn rfl rfl rfl (by decide +kernel) ⟨Nat.le_of_ble_eq_true rfl, Nat.le_of_ble_eq_true rfl⟩) (by decide) 6 e3 rfl rfl hl.1 rfl (Nat.le_of_ble_eq_true rfl) dX6_countCut_6 ⟨Nat.le_of_ble_eq_true rfl, Nat.le_of_ble_eq_true rfl⟩ (fun r g H locs hw hP hD hS => ?_)
  obtain ⟨hrs, rfl⟩ := hw
  obtain ⟨x4, rfl⟩ : ∃ q, q = r := ⟨_, rfl⟩
  have h5 := hrs
  exact tI hx hb hr hlk rfl hP hS ⟨trivial, rfl⟩ dX6_countCut_9
set_option maxHeartbeats 4000000 in
set_option maxRecDepth 100000 in
theorem s_X8_sure_0 (l : Launch) (B0 : Nat) (adK adV : Nat → Nat) (D : va_G) (cy : Nat → ClassId) (ad : Nat → Nat) (fr0 : Nat → va_E) (tx : Int32) (rby : Int32) (rnx : Int32) (f : Nat → va_E) (hT : TYx ad cy fr0 tx rby rnx f) (p1 : Int32) (p2 : Int32) (sz : Nat) : TtI l yX8_sure wsX8_sure 7 171 [.ref (ad 0), .int p1, .int p2] B0 adK adV D cy ad f sz (fun (r : Int32) (g : Nat → va_E) => (-2 ≤ r.toInt ∧ r.toInt ≤ 1) ∧ (TYx ad cy fr0 tx rby rnx g)) := by
  refine TtI.of (cc := cX8_sure) (maxL := 4) (ty := .int) (own := RX8) (by decide) rfl (Nat.le_of_ble_eq_true rfl) rfl ?_
  intro p e s m below meth c A ls hx hb hr hml hts hown hlk hK hE hP hD hS hA hAB hl
  have hl : lv_has ls 4 [(0, .ref (ad 0)), (1, .int p1), (2, .int p2)] := hl
  refine st0 (fun H locs hP hS => ?_) hP hS
  refine lv_aload_n hx hb dX8_sure_0 rfl (lv_at hl 0 rfl) ?_
  obtain ⟨t1, x3, x4, e6, h2, h5⟩ := (show okX8 ad tx 0 (f 0) from hT.1 0 (by decide))
  refine va_get (D := D) (cl := vwCl) (ci := 8) (v := .ref (ad t1)) (C := RX8) (T := TX8) (N := 13) hx hb hts in_X8_sure_X8 hown hK hP 0 (wl_at (by decide) e6) rfl 1 (by decide) (hts (.fieldLink RX8 19 "EightReasons" "told" "LEightReasons$Suit;") (List.mem_of_getElem? (i := 1) rfl)) (fun _ h9 => h9) rfl dX8_sure_1 ?_
  refine lv_iload_n hx hb dX8_sure_4 rfl (lv_at hl 1 rfl) ?_
  obtain ⟨x7, x9, x10, x12, x13, e14, h8, h11⟩ := (ty_suit hT h2)
  refine tVI (As := [.int p1]) (rest := []) (i := t1) ⟨hx, hb, hml, hown, hts⟩ hK hE hP hD hS hA hAB (s_X5_isStrand_0 l B0 adK adV D cy ad fr0 tx rby rnx f hT t1 h2 p1 _) (cwV 1 hts gX8_sure_X5_isStrand rfl rfl rfl (by decide +kernel) ⟨Nat.le_of_ble_eq_true rfl, Nat.le_of_ble_eq_true rfl⟩) (x_lt (x_suit0 h2)) 5 e14 rfl rfl hl.1 rfl (Nat.le_of_ble_eq_true rfl) dX8_sure_5 ⟨Nat.le_of_ble_eq_true rfl, Nat.le_of_ble_eq_true rfl⟩ (fun r g H locs hw hP hD hS => ?_)
  obtain ⟨hrs, rfl⟩ := hw
  obtain ⟨x15, rfl⟩ : ∃ q, q = r := ⟨_, rfl⟩
  rcases hrs with ⟨rfl, h16, h17⟩ | rfl
  · refine lv_if_ne (tgt := 13) hx hb dX8_sure_8 (by decide) (fun _ => ?_) (fun c => absurd c (by decide))
    refine lv_aload_n hx hb dX8_sure_13 rfl (lv_at hl 0 rfl) ?_
    refine lv_iload_n hx hb dX8_sure_14 rfl (lv_at hl 2 rfl) ?_
    refine tVV (As := [.int p2]) (rest := []) (i := 0) ⟨hx, hb, hml, hown, hts⟩ hK hE hP hD hS hA hAB (s_X8_findWays_0 l B0 adK adV D cy ad fr0 tx rby rnx f hT p2 _) (cwV 1 hts gX8_sure_X8_findWays rfl rfl rfl (by decide +kernel) ⟨Nat.le_of_ble_eq_true rfl, Nat.le_of_ble_eq_true rfl⟩) (by decide) 8 e6 rfl rfl hl.1 rfl (Nat.le_of_ble_eq_true rfl) dX8_sure_15 ⟨Nat.le_of_ble_eq_true rfl, Nat.le_of_ble_eq_true rfl⟩ (fun f H locs hw hP hD hS => ?_)
    obtain ⟨hrs, hT⟩ := hw
    refine lv_aload_n hx hb dX8_sure_18 rfl (lv_at hl 0 rfl) ?_
    obtain ⟨t18, x20, x21, e23, h19, h22⟩ := (show okX8 ad tx 0 (f 0) from hT.1 0 (by decide))
    refine va_get (D := D) (cl := vwCl) (ci := 8) (v := .ref (ad 24)) (C := RX8) (T := TX8) (N := 13) hx hb hts in_X8_sure_X8 hown hK hP 0 (wl_at (by decide) e23) rfl 11 (by decide) (hts (.fieldLink RX8 65 "EightReasons" "open" "LEightReasons$Ways;") (List.mem_of_getElem? (i := 2) rfl)) (fun _ h9 => h9) rfl dX8_sure_19 ?_
    obtain ⟨x24, e26, h25⟩ := (show okX6 ad 24 (f 24) from hT.1 24 (by decide))
    refine va_get (D := D) (cl := vwCl) (ci := 6) (v := .int x24) (C := RX6) (T := TX6) (N := 3) hx hb hts in_X8_sure_X6 hown hK hP 24 (wl_at (by decide) e26) rfl 0 (by decide) (hts (.fieldLink RX8 344 "EightReasons$Ways" "count" "I") (List.mem_of_getElem? (i := 3) rfl)) (fun _ h9 => h9) rfl dX8_sure_22 ?_
    have ttl_0 := tl_0
    refine lv_if_ne (tgt := 30) hx hb dX8_sure_25 (by decide) (fun c27 => ?_) (fun c27 => ?_)
    · have kc27 := c_ne c27
      refine lv_aload_n hx hb dX8_sure_30 rfl (lv_at hl 0 rfl) ?_
      refine va_get (D := D) (cl := vwCl) (ci := 8) (v := .ref (ad 24)) (C := RX8) (T := TX8) (N := 13) hx hb hts in_X8_sure_X8 hown hK hP 0 (wl_at (by decide) e23) rfl 11 (by decide) (hts (.fieldLink RX8 65 "EightReasons" "open" "LEightReasons$Ways;") (List.mem_of_getElem? (i := 2) rfl)) (fun _ h9 => h9) rfl dX8_sure_31 ?_
      refine lv_iload_n hx hb dX8_sure_34 rfl (lv_at hl 1 rfl) ?_
      refine tVI (As := [.int p1]) (rest := []) (i := 24) ⟨hx, hb, hml, hown, hts⟩ hK hE hP hD hS hA hAB (s_X6_countCut_0 l B0 adK adV D cy ad fr0 tx rby rnx f hT p1 (by omega) _) (cwV 1 hts gX8_sure_X6_countCut rfl rfl rfl (by decide +kernel) ⟨Nat.le_of_ble_eq_true rfl, Nat.le_of_ble_eq_true rfl⟩) (by decide) 6 e26 rfl rfl hl.1 rfl (Nat.le_of_ble_eq_true rfl) dX8_sure_35 ⟨Nat.le_of_ble_eq_true rfl, Nat.le_of_ble_eq_true rfl⟩ (fun r g H locs hw hP hD hS => ?_)
      obtain ⟨hrs, rfl⟩ := hw
      obtain ⟨x28, rfl⟩ : ∃ q, q = r := ⟨_, rfl⟩
      have h29 := hrs
      refine lv_istore_n (lv' := [(3, .int x28), (0, .ref (ad 0)), (1, .int p1), (2, .int p2)]) hx hb dX8_sure_38 rfl hl (by decide) rfl (fun ls hl => ?_)
      refine lv_iload_n hx hb dX8_sure_39 rfl (lv_at hl 0 rfl) ?_
      refine lv_aload_n hx hb dX8_sure_40 rfl (lv_at hl 1 rfl) ?_
      refine va_get (D := D) (cl := vwCl) (ci := 8) (v := .ref (ad 24)) (C := RX8) (T := TX8) (N := 13) hx hb hts in_X8_sure_X8 hown hK hP 0 (wl_at (by decide) e23) rfl 11 (by decide) (hts (.fieldLink RX8 65 "EightReasons" "open" "LEightReasons$Ways;") (List.mem_of_getElem? (i := 2) rfl)) (fun _ h9 => h9) rfl dX8_sure_41 ?_
      refine va_get (D := D) (cl := vwCl) (ci := 6) (v := .int x24) (C := RX6) (T := TX6) (N := 3) hx hb hts in_X8_sure_X6 hown hK hP 24 (wl_at (by decide) e26) rfl 0 (by decide) (hts (.fieldLink RX8 344 "EightReasons$Ways" "count" "I") (List.mem_of_getElem? (i := 3) rfl)) (fun _ h9 => h9) rfl dX8_sure_44 ?_
      refine lv_icmp_ne (tgt := 52) hx hb dX8_sure_47 (by decide) (fun c30 => ?_) (fun c30 => ?_)
      · have kc30 := c_ne c30
        refine lv_iload_n hx hb dX8_sure_52 rfl (lv_at hl 0 rfl) ?_
        refine lv_if_ne (tgt := 60) hx hb dX8_sure_53 (by decide) (fun c31 => ?_) (fun c31 => ?_)
        · have kc31 := c_ne c31
          refine lv_bipush (v := (-2)) hx hb dX8_sure_60 (by decide) ?_
          have ttl_m2 := tl_m2
          exact tI hx hb hr hlk rfl hP hS ⟨(by omega), hT⟩ dX8_sure_62
        · have kc31 := c_eq c31
          refine lv_iconst (v := 0) hx hb dX8_sure_56 (by decide) ?_
          refine lv_goto (tgt := 62) hx hb dX8_sure_57 (by decide) ?_
          exact tI hx hb hr hlk rfl hP hS ⟨(by omega), hT⟩ dX8_sure_62
      · have kc30 := c_eq c30
        refine lv_iconst (v := 1) hx hb dX8_sure_50 (by decide) ?_
        have ttl_1 := tl_1
        exact tI hx hb hr hlk rfl hP hS ⟨(by omega), hT⟩ dX8_sure_51
    · have kc27 := c_eq c27
      refine lv_iconst (v := (-1)) hx hb dX8_sure_28 (by decide) ?_
      have ttl_m1 := tl_m1
      exact tI hx hb hr hlk rfl hP hS ⟨(by omega), hT⟩ dX8_sure_29
  · refine lv_if_ne (tgt := 13) hx hb dX8_sure_8 (by decide) (fun c => absurd (by decide) c) (fun _ => ?_)
    refine lv_iconst (v := (-1)) hx hb dX8_sure_11 (by decide) ?_
    have ttl_m1 := tl_m1
    exact tI hx hb hr hlk rfl hP hS ⟨(by omega), hT⟩ dX8_sure_12
set_option maxHeartbeats 4000000 in
set_option maxRecDepth 100000 in
theorem s_X6_countIn_1 (l : Launch) (B0 : Nat) (adK adV : Nat → Nat) (D : va_G) (cy : Nat → ClassId) (ad : Nat → Nat) (fr0 : Nat → va_E) (tx : Int32) (rby : Int32) (rnx : Int32) (f : Nat → va_E) (hT : TYx ad cy fr0 tx rby rnx f) (p2 : Int32) (hp2 : 0 ≤ p2.toInt ∧ p2.toInt ≤ 9) (sz : Nat) : TtI l yX6_countIn wsX6_countIn 1 21 [.ref (ad 24), .ref (ad 26), .int p2] B0 adK adV D cy ad f sz (fun (r : Int32) (g : Nat → va_E) => True ∧ (f = g)) := by
  refine TtI.of (cc := cX6_countIn) (maxL := 5) (ty := .int) (own := RX6) (by decide) rfl (Nat.le_of_ble_eq_true rfl) rfl ?_
  intro p e s m below meth c A ls hx hb hr hml hts hown hlk hK hE hP hD hS hA hAB hl
  have hl : lv_has ls 5 [(0, .ref (ad 24)), (1, .ref (ad 26)), (2, .int p2)] := hl
  refine st0 (fun H locs hP hS => ?_) hP hS
  have j5 : ∀ (N : Nat) (H : Heap) (locs : List Loc) (ls : Array Slot) (v5_l4 : Int32) (v5_l3 : Int32), (80 - v5_l4.toInt ≤ (N : Int)) → (0 ≤ v5_l4.toInt ∧ v5_l4.toInt ≤ 79) → (0 ≤ p2.toInt ∧ p2.toInt ≤ 9) → (va_P D vwCl (wl ad f) H) → (va_D A (wl ad f)) → (va_S A s.heap H locs) → (lv_has ls 5 [(4, .int v5_l4), (3, .int v5_l3), (0, .ref (ad 24)), (1, .ref (ad 26)), (2, .int p2)]) → W p l e (rmO 1 21 0 0) s m ([.ref (ad 24), .ref (ad 26), .int p2] : List Value).toArray below meth c H locs 0 0 (MQ below (va_Qi (fun (r : Int32) (g : Nat → va_E) => True ∧ (f = g)) (fun g t => PstT D ad g t) A) ([.ref (ad 24), .ref (ad 26), .int p2] : List Value).toArray s 0 0 A) (F0 m 5 ls []) := by
    intro N
    induction N with
    | zero => intro H locs ls v5_l4 v5_l3 hN hv5_l4 hv5_l2 hP hD hS hl; exact absurd hN (by omega)
    | succ N ih5 =>
      intro H locs ls v5_l4 v5_l3 hN hv5_l4 hv5_l2 hP hD hS hl
      have j35 : ∀ (H : Heap) (locs : List Loc) (ls : Array Slot) (v35_l3 : Int32), (0 ≤ v5_l4.toInt ∧ v5_l4.toInt ≤ 78) → (0 ≤ p2.toInt ∧ p2.toInt ≤ 9) → (va_P D vwCl (wl ad f) H) → (va_D A (wl ad f)) → (va_S A s.heap H locs) → (lv_has ls 5 [(3, .int v35_l3), (4, .int v5_l4), (0, .ref (ad 24)), (1, .ref (ad 26)), (2, .int p2)]) → W p l e (rmO 1 21 0 0) s m ([.ref (ad 24), .ref (ad 26), .int p2] : List Value).toArray below meth c H locs 0 0 (MQ below (va_Qi (fun (r : Int32) (g : Nat → va_E) => True ∧ (f = g)) (fun g t => PstT D ad g t) A) ([.ref (ad 24), .ref (ad 26), .int p2] : List Value).toArray s 0 0 A) (F0 m 35 ls []) := by
        intro H locs ls v35_l3 hv35_l4 hv35_l2 hP hD hS hl
        obtain ⟨x1, ex1⟩ : ∃ q : Int32, q = v5_l4 + Int32.ofInt (1) := ⟨_, rfl⟩
        refine lv_iinc (v := x1) (lv' := [(4, .int x1), (3, .int v35_l3), (0, .ref (ad 24)), (1, .ref (ad 26)), (2, .int p2)]) hx hb dX6_countIn_35 hl (k := 1) rfl ex1.symm (by decide) rfl (fun ls hl => ?_)
        have hx1 := r_inc ex1 (by decide) (by omega) (by omega)
        refine lv_goto (tgt := 5) hx hb dX6_countIn_38 (by decide) ?_
        exact ih5 H locs ls x1 v35_l3 (by omega) (by omega) (by omega) hP hD hS (lv_sub hl [0, 1, 2, 3, 4] rfl)
      refine lv_iload hx hb dX6_countIn_5 (lv_at hl 0 rfl) ?_
      refine lv_aload_n hx hb dX6_countIn_7 rfl (lv_at hl 2 rfl) ?_
      obtain ⟨x2, e4, h3⟩ := (show okX6 ad 24 (f 24) from hT.1 24 (by decide))
      refine va_get (D := D) (cl := vwCl) (ci := 6) (v := .int x2) (C := RX6) (T := TX6) (N := 3) hx hb hts in_X6_countIn_X6 hown hK hP 24 (wl_at (by decide) e4) rfl 0 (by decide) (hts (.fieldLink RX6 18 "EightReasons$Ways" "count" "I") (List.mem_of_getElem? (i := 1) rfl)) (fun _ h9 => h9) rfl dX6_countIn_8 ?_
      refine lv_icmp_ge (tgt := 41) hx hb dX6_countIn_11 (by decide) (fun c5 => ?_) (fun c5 => ?_)
      · have kc5 := c_le c5
        refine lv_iload_n hx hb dX6_countIn_41 rfl (lv_at hl 1 rfl) ?_
        exact tI hx hb hr hlk rfl hP hS ⟨trivial, rfl⟩ dX6_countIn_42
      · have kc5 := c_nle c5
        refine lv_iload hx hb dX6_countIn_14 (lv_at hl 0 rfl) ?_
        refine lv_aload_n hx hb dX6_countIn_16 rfl (lv_at hl 3 rfl) ?_
        obtain ⟨g7, e6⟩ := (show okI cy 79 (f 26) from hT.1 26 (by decide))
        refine va_alen hx hb hK hP 26 0 (wl_at (by decide) e6) rfl (v := 79) rfl dX6_countIn_17 ?_
        have ttl_79 := tl_79
        refine lv_icmp_ge (tgt := 41) hx hb dX6_countIn_18 (by decide) (fun c8 => ?_) (fun c8 => ?_)
        · have kc8 := c_le c8
          exact absurd kc8 (by omega)
        · have kc8 := c_nle c8
          refine lv_aload_n hx hb dX6_countIn_21 rfl (lv_at hl 3 rfl) ?_
          refine lv_iload hx hb dX6_countIn_22 (lv_at hl 0 rfl) ?_
          refine va_iald hx hb hK hP 26 0 (wl_at (by decide) e6) rfl (vp_in_iff.mpr ⟨by omega, by omega⟩) dX6_countIn_24 ?_
          refine lv_topi (fun x9 ex9 => ?_)
          refine lv_iload_n hx hb dX6_countIn_25 rfl (lv_at hl 4 rfl) ?_
          refine tNI (As := [.int x9, .int p2]) (rest := []) (host := RX8) ⟨hx, hb, hml, hown, hts⟩ hK hE hP hD hS hA hAB (s_X8_has_0 l B0 adK adV D cy ad f x9 p2 _) ⟨va_cnB 2 hts gX6_countIn_X8_has_n53 rfl rfl rfl (hE.2.1 _ (List.mem_of_getElem? (i := 13) rfl)) (hts (.initialized RX8) (List.mem_of_getElem? (i := 3) rfl)) (by decide +kernel) ⟨Nat.le_of_ble_eq_true rfl, Nat.le_of_ble_eq_true rfl⟩, (hts (.static yX8_has) (List.mem_of_getElem? (i := 2) rfl)), trivial⟩ rfl hl.1 rfl (Nat.le_of_ble_eq_true rfl) dX6_countIn_26 ⟨Nat.le_of_ble_eq_true rfl, Nat.le_of_ble_eq_true rfl⟩ (fun r g H locs hw hP hD hS => ?_)
          obtain ⟨hrs, rfl⟩ := hw
          obtain ⟨x10, rfl⟩ : ∃ q, q = r := ⟨_, rfl⟩
          rcases hrs with rfl | rfl
          · refine lv_if_eq (tgt := 35) hx hb dX6_countIn_29 (by decide) (fun c => absurd c (by decide)) (fun _ => ?_)
            obtain ⟨x11, ex11⟩ : ∃ q : Int32, q = v5_l3 + Int32.ofInt (1) := ⟨_, rfl⟩
            refine lv_iinc (v := x11) (lv' := [(3, .int x11), (4, .int v5_l4), (0, .ref (ad 24)), (1, .ref (ad 26)), (2, .int p2)]) hx hb dX6_countIn_32 hl (k := 1) rfl ex11.symm (by decide) rfl (fun ls hl => ?_)
            exact j35 H locs ls x11 (by omega) (by omega) hP hD hS (lv_sub hl [0, 1, 2, 3, 4] rfl)
          · refine lv_if_eq (tgt := 35) hx hb dX6_countIn_29 (by decide) (fun _ => ?_) (fun c => absurd (by decide) c)
            exact j35 H locs ls v5_l3 (by omega) (by omega) hP hD hS (lv_sub hl [1, 0, 2, 3, 4] rfl)
  refine lv_iconst (v := 0) hx hb dX6_countIn_0 (by decide) ?_
  refine lv_istore_n (lv' := [(3, .int 0), (0, .ref (ad 24)), (1, .ref (ad 26)), (2, .int p2)]) hx hb dX6_countIn_1 rfl hl (by decide) rfl (fun ls hl => ?_)
  refine lv_iconst (v := 0) hx hb dX6_countIn_2 (by decide) ?_
  refine lv_istore (lv' := [(4, .int 0), (3, .int 0), (0, .ref (ad 24)), (1, .ref (ad 26)), (2, .int p2)]) hx hb dX6_countIn_3 hl (by decide) rfl (fun ls hl => ?_)
  have ttl_0 := tl_0
  exact j5 (Int.toNat (80 - (0 : Int32).toInt)) H locs ls (0 : Int32) (0 : Int32) (by omega) (by omega) (by omega) hP hD hS (lv_sub hl [0, 1, 2, 3, 4] rfl)
set_option maxHeartbeats 4000000 in
set_option maxRecDepth 100000 in
theorem s_X6_leftAtMost_0 (l : Launch) (B0 : Nat) (adK adV : Nat → Nat) (D : va_G) (cy : Nat → ClassId) (ad : Nat → Nat) (fr0 : Nat → va_E) (tx : Int32) (rby : Int32) (rnx : Int32) (f : Nat → va_E) (hT : TYx ad cy fr0 tx rby rnx f) (p1 : Int32) (hp1 : 0 ≤ p1.toInt ∧ p1.toInt ≤ 9) (sz : Nat) : TtI l yX6_leftAtMost wsX6_leftAtMost 2 45 [.ref (ad 24), .int p1] B0 adK adV D cy ad f sz (fun (r : Int32) (g : Nat → va_E) => True ∧ (f = g)) := by
  refine TtI.of (cc := cX6_leftAtMost) (maxL := 3) (ty := .int) (own := RX6) (by decide) rfl (Nat.le_of_ble_eq_true rfl) rfl ?_
  intro p e s m below meth c A ls hx hb hr hml hts hown hlk hK hE hP hD hS hA hAB hl
  have hl : lv_has ls 3 [(0, .ref (ad 24)), (1, .int p1)] := hl
  refine st0 (fun H locs hP hS => ?_) hP hS
  refine lv_aload_n hx hb dX6_leftAtMost_0 rfl (lv_at hl 0 rfl) ?_
  refine lv_aload_n hx hb dX6_leftAtMost_1 rfl (lv_at hl 0 rfl) ?_
  obtain ⟨x1, e3, h2⟩ := (show okX6 ad 24 (f 24) from hT.1 24 (by decide))
  refine va_get (D := D) (cl := vwCl) (ci := 6) (v := .ref (ad 26)) (C := RX6) (T := TX6) (N := 3) hx hb hts in_X6_leftAtMost_X6 hown hK hP 24 (wl_at (by decide) e3) rfl 2 (by decide) (hts (.fieldLink RX6 15 "EightReasons$Ways" "ups" "[I") (List.mem_of_getElem? (i := 1) rfl)) (fun _ h9 => h9) rfl dX6_leftAtMost_2 ?_
  refine lv_iload_n hx hb dX6_leftAtMost_5 rfl (lv_at hl 1 rfl) ?_
  refine tVI (As := [.ref (ad 26), .int p1]) (rest := []) (i := 24) ⟨hx, hb, hml, hown, hts⟩ hK hE hP hD hS hA hAB (s_X6_countIn_1 l B0 adK adV D cy ad fr0 tx rby rnx f hT p1 (by omega) _) (cwV 2 hts gX6_leftAtMost_X6_countIn rfl rfl rfl (by decide +kernel) ⟨Nat.le_of_ble_eq_true rfl, Nat.le_of_ble_eq_true rfl⟩) (by decide) 6 e3 rfl rfl hl.1 rfl (Nat.le_of_ble_eq_true rfl) dX6_leftAtMost_6 ⟨Nat.le_of_ble_eq_true rfl, Nat.le_of_ble_eq_true rfl⟩ (fun r g H locs hw hP hD hS => ?_)
  obtain ⟨hrs, rfl⟩ := hw
  obtain ⟨x4, rfl⟩ : ∃ q, q = r := ⟨_, rfl⟩
  have h5 := hrs
  refine lv_istore_n (lv' := [(2, .int x4), (0, .ref (ad 24)), (1, .int p1)]) hx hb dX6_leftAtMost_9 rfl hl (by decide) rfl (fun ls hl => ?_)
  refine lv_iload_n hx hb dX6_leftAtMost_10 rfl (lv_at hl 0 rfl) ?_
  refine lv_aload_n hx hb dX6_leftAtMost_11 rfl (lv_at hl 1 rfl) ?_
  refine va_get (D := D) (cl := vwCl) (ci := 6) (v := .int x1) (C := RX6) (T := TX6) (N := 3) hx hb hts in_X6_leftAtMost_X6 hown hK hP 24 (wl_at (by decide) e3) rfl 0 (by decide) (hts (.fieldLink RX6 18 "EightReasons$Ways" "count" "I") (List.mem_of_getElem? (i := 2) rfl)) (fun _ h9 => h9) rfl dX6_leftAtMost_12 ?_
  refine lv_iload_n hx hb dX6_leftAtMost_15 rfl (lv_at hl 0 rfl) ?_
  refine lv_isub hx hb dX6_leftAtMost_16 ?_
  refine lv_topi (fun x6 ex6 => ?_)
  refine va_mmax hx hb (hml.trans hl.1.symm) hown (hts (.methodLink RX6 47 Lib.Math.max.name) (List.mem_of_getElem? (i := 3) rfl)) (hts (.static Lib.Math.max.name) (List.mem_of_getElem? (i := 4) rfl)) (hts (.initialized "java/lang/Math") (List.mem_of_getElem? (i := 5) rfl)) (hts (.code Lib.Math.max.name Lib.Math.max.code 2 (some .int)) (List.mem_of_getElem? (i := 6) rfl)) (Nat.le_of_ble_eq_true rfl) (Nat.le_of_ble_eq_true rfl) (Nat.le_of_ble_eq_true rfl) (Nat.le_of_ble_eq_true rfl) dX6_leftAtMost_17 ?_
  refine lv_topi (fun x7 ex7 => ?_)
  have hx7 := r_max ex7
  exact tI hx hb hr hlk rfl hP hS ⟨trivial, rfl⟩ dX6_leftAtMost_20
set_option maxHeartbeats 4000000 in
set_option maxRecDepth 100000 in
theorem s_X8_ask_0 (l : Launch) (B0 : Nat) (adK adV : Nat → Nat) (D : va_G) (cy : Nat → ClassId) (ad : Nat → Nat) (fr0 : Nat → va_E) (tx : Int32) (rby : Int32) (rnx : Int32) (f : Nat → va_E) (hT : TYx ad cy fr0 tx rby rnx f) (p1 : Int32) (p2 : Int32) (sz : Nat) : TtI l yX8_ask wsX8_ask 7 171 [.ref (ad 0), .int p1, .int p2] B0 adK adV D cy ad f sz (fun (r : Int32) (g : Nat → va_E) => True ∧ (TYx ad cy fr0 tx rby rnx g)) := by
  refine TtI.of (cc := cX8_ask) (maxL := 7) (ty := .int) (own := RX8) (by decide) rfl (Nat.le_of_ble_eq_true rfl) rfl ?_
  intro p e s m below meth c A ls hx hb hr hml hts hown hlk hK hE hP hD hS hA hAB hl
  have hl : lv_has ls 7 [(0, .ref (ad 0)), (1, .int p1), (2, .int p2)] := hl
  refine st0 (fun H locs hP hS => ?_) hP hS
  have j32 : ∀ (N : Nat) (f : Nat → va_E) (H : Heap) (locs : List Loc) (ls : Array Slot) (v32_l5 : Int32) (v32_l4 : Int32) (v32_l3 : Int32), (11 - v32_l5.toInt ≤ (N : Int)) → (0 ≤ v32_l5.toInt ∧ v32_l5.toInt ≤ 10) → (-1 ≤ v32_l3.toInt ∧ v32_l3.toInt ≤ 9) → (0 ≤ p1.toInt ∧ p1.toInt ≤ 1) → (TYx ad cy fr0 tx rby rnx f) → (va_P D vwCl (wl ad f) H) → (va_D A (wl ad f)) → (va_S A s.heap H locs) → (lv_has ls 7 [(5, .int v32_l5), (4, .int v32_l4), (3, .int v32_l3), (0, .ref (ad 0)), (1, .int p1), (2, .int p2)]) → W p l e (rmO 7 171 0 0) s m ([.ref (ad 0), .int p1, .int p2] : List Value).toArray below meth c H locs 0 0 (MQ below (va_Qi (fun (r : Int32) (g : Nat → va_E) => True ∧ (TYx ad cy fr0 tx rby rnx g)) (fun g t => PstT D ad g t) A) ([.ref (ad 0), .int p1, .int p2] : List Value).toArray s 0 0 A) (F0 m 32 ls []) := by
    intro N
    induction N with
    | zero => intro f H locs ls v32_l5 v32_l4 v32_l3 hN hv32_l5 hv32_l3 hv32_l1 hT hP hD hS hl; exact absurd hN (by omega)
    | succ N ih32 =>
      intro f H locs ls v32_l5 v32_l4 v32_l3 hN hv32_l5 hv32_l3 hv32_l1 hT hP hD hS hl
      have j86 : ∀ (f : Nat → va_E) (H : Heap) (locs : List Loc) (ls : Array Slot) (v86_l6 : Int32) (v86_l4 : Int32) (v86_l3 : Int32), (0 ≤ v32_l5.toInt ∧ v32_l5.toInt ≤ 9) → (-1 ≤ v86_l3.toInt ∧ v86_l3.toInt ≤ 9) → (0 ≤ p1.toInt ∧ p1.toInt ≤ 1) → (TYx ad cy fr0 tx rby rnx f) → (va_P D vwCl (wl ad f) H) → (va_D A (wl ad f)) → (va_S A s.heap H locs) → (lv_has ls 7 [(6, .int v86_l6), (5, .int v32_l5), (4, .int v86_l4), (3, .int v86_l3), (0, .ref (ad 0)), (1, .int p1), (2, .int p2)]) → W p l e (rmO 7 171 0 0) s m ([.ref (ad 0), .int p1, .int p2] : List Value).toArray below meth c H locs 0 0 (MQ below (va_Qi (fun (r : Int32) (g : Nat → va_E) => True ∧ (TYx ad cy fr0 tx rby rnx g)) (fun g t => PstT D ad g t) A) ([.ref (ad 0), .int p1, .int p2] : List Value).toArray s 0 0 A) (F0 m 86 ls []) := by
        intro f H locs ls v86_l6 v86_l4 v86_l3 hv86_l5 hv86_l3 hv86_l1 hT hP hD hS hl
        obtain ⟨x1, ex1⟩ : ∃ q : Int32, q = v32_l5 + Int32.ofInt (1) := ⟨_, rfl⟩
        refine lv_iinc (v := x1) (lv' := [(5, .int x1), (6, .int v86_l6), (4, .int v86_l4), (3, .int v86_l3), (0, .ref (ad 0)), (1, .int p1), (2, .int p2)]) hx hb dX8_ask_86 hl (k := 1) rfl ex1.symm (by decide) rfl (fun ls hl => ?_)
        have hx1 := r_inc ex1 (by decide) (by omega) (by omega)
        refine lv_goto (tgt := 32) hx hb dX8_ask_89 (by decide) ?_
        exact ih32 f H locs ls x1 v86_l4 v86_l3 (by omega) (by omega) (by omega) (by omega) hT hP hD hS (lv_sub hl [0, 2, 3, 4, 5, 6] rfl)
      have j79 : ∀ (f : Nat → va_E) (H : Heap) (locs : List Loc) (ls : Array Slot) (v79_l6 : Int32), (0 ≤ v32_l5.toInt ∧ v32_l5.toInt ≤ 9) → (-1 ≤ v32_l3.toInt ∧ v32_l3.toInt ≤ 9) → (0 ≤ p1.toInt ∧ p1.toInt ≤ 1) → (TYx ad cy fr0 tx rby rnx f) → (va_P D vwCl (wl ad f) H) → (va_D A (wl ad f)) → (va_S A s.heap H locs) → (lv_has ls 7 [(6, .int v79_l6), (5, .int v32_l5), (4, .int v32_l4), (3, .int v32_l3), (0, .ref (ad 0)), (1, .int p1), (2, .int p2)]) → W p l e (rmO 7 171 0 0) s m ([.ref (ad 0), .int p1, .int p2] : List Value).toArray below meth c H locs 0 0 (MQ below (va_Qi (fun (r : Int32) (g : Nat → va_E) => True ∧ (TYx ad cy fr0 tx rby rnx g)) (fun g t => PstT D ad g t) A) ([.ref (ad 0), .int p1, .int p2] : List Value).toArray s 0 0 A) (F0 m 79 ls []) := by
        intro f H locs ls v79_l6 hv79_l5 hv79_l3 hv79_l1 hT hP hD hS hl
        refine lv_iload hx hb dX8_ask_79 (lv_at hl 1 rfl) ?_
        refine lv_istore_n (lv' := [(3, .int v32_l5), (6, .int v79_l6), (5, .int v32_l5), (4, .int v32_l4), (0, .ref (ad 0)), (1, .int p1), (2, .int p2)]) hx hb dX8_ask_81 rfl hl (by decide) rfl (fun ls hl => ?_)
        refine lv_iload hx hb dX8_ask_82 (lv_at hl 1 rfl) ?_
        refine lv_istore (lv' := [(4, .int v79_l6), (3, .int v32_l5), (6, .int v79_l6), (5, .int v32_l5), (0, .ref (ad 0)), (1, .int p1), (2, .int p2)]) hx hb dX8_ask_84 hl (by decide) rfl (fun ls hl => ?_)
        exact j86 f H locs ls v79_l6 v79_l6 v32_l5 (by omega) (by omega) (by omega) hT hP hD hS (lv_sub hl [2, 3, 0, 1, 4, 5, 6] rfl)
      refine lv_iload hx hb dX8_ask_32 (lv_at hl 0 rfl) ?_
      refine lv_aload_n hx hb dX8_ask_34 rfl (lv_at hl 3 rfl) ?_
      obtain ⟨t2, x4, x5, e7, h3, h6⟩ := (show okX8 ad tx 0 (f 0) from hT.1 0 (by decide))
      refine va_get (D := D) (cl := vwCl) (ci := 8) (v := .ref (ad t2)) (C := RX8) (T := TX8) (N := 13) hx hb hts in_X8_ask_X8 hown hK hP 0 (wl_at (by decide) e7) rfl 1 (by decide) (hts (.fieldLink RX8 19 "EightReasons" "told" "LEightReasons$Suit;") (List.mem_of_getElem? (i := 3) rfl)) (fun _ h9 => h9) rfl dX8_ask_35 ?_
      obtain ⟨x8, x10, x11, x13, x14, e15, h9, h12⟩ := (ty_suit hT h3)
      refine va_get (D := D) (cl := vwCl) (ci := 5) (v := .int x8) (C := RX5) (T := TX5) (N := 12) hx hb hts in_X8_ask_X5 hown hK hP t2 (wl_at (x_lt (x_suit0 h3)) e15) rfl 0 (by decide) (hts (.fieldLink RX8 105 "EightReasons$Suit" "points" "I") (List.mem_of_getElem? (i := 4) rfl)) (fun _ h9 => h9) rfl dX8_ask_38 ?_
      refine lv_icmp_ge (tgt := 92) hx hb dX8_ask_41 (by decide) (fun c16 => ?_) (fun c16 => ?_)
      · have kc16 := c_le c16
        refine lv_iload_n hx hb dX8_ask_92 rfl (lv_at hl 4 rfl) ?_
        have ttl_0 := tl_0
        refine lv_if_ne (tgt := 100) hx hb dX8_ask_93 (by decide) (fun c17 => ?_) (fun c17 => ?_)
        · have kc17 := c_ne c17
          refine lv_iload hx hb dX8_ask_100 (lv_at hl 1 rfl) ?_
          exact tI hx hb hr hlk rfl hP hS ⟨trivial, hT⟩ dX8_ask_102
        · have kc17 := c_eq c17
          refine lv_iload_n hx hb dX8_ask_96 rfl (lv_at hl 2 rfl) ?_
          refine lv_goto (tgt := 102) hx hb dX8_ask_97 (by decide) ?_
          exact tI hx hb hr hlk rfl hP hS ⟨trivial, hT⟩ dX8_ask_102
      · have kc16 := c_nle c16
        refine lv_aload_n hx hb dX8_ask_44 rfl (lv_at hl 3 rfl) ?_
        refine va_get (D := D) (cl := vwCl) (ci := 8) (v := .ref (ad 24)) (C := RX8) (T := TX8) (N := 13) hx hb hts in_X8_ask_X8 hown hK hP 0 (wl_at (by decide) e7) rfl 11 (by decide) (hts (.fieldLink RX8 65 "EightReasons" "open" "LEightReasons$Ways;") (List.mem_of_getElem? (i := 1) rfl)) (fun _ h9 => h9) rfl dX8_ask_45 ?_
        refine lv_iload hx hb dX8_ask_48 (lv_at hl 0 rfl) ?_
        obtain ⟨x18, e20, h19⟩ := (show okX6 ad 24 (f 24) from hT.1 24 (by decide))
        refine tVI (As := [.int v32_l5]) (rest := []) (i := 24) ⟨hx, hb, hml, hown, hts⟩ hK hE hP hD hS hA hAB (s_X6_leftAtMost_0 l B0 adK adV D cy ad fr0 tx rby rnx f hT v32_l5 (by omega) _) (cwV 1 hts gX8_ask_X6_leftAtMost rfl rfl rfl (by decide +kernel) ⟨Nat.le_of_ble_eq_true rfl, Nat.le_of_ble_eq_true rfl⟩) (by decide) 6 e20 rfl rfl hl.1 rfl (Nat.le_of_ble_eq_true rfl) dX8_ask_50 ⟨Nat.le_of_ble_eq_true rfl, Nat.le_of_ble_eq_true rfl⟩ (fun r g H locs hw hP hD hS => ?_)
        obtain ⟨hrs, rfl⟩ := hw
        obtain ⟨x21, rfl⟩ : ∃ q, q = r := ⟨_, rfl⟩
        have h22 := hrs
        refine lv_istore (lv' := [(6, .int x21), (5, .int v32_l5), (4, .int v32_l4), (3, .int v32_l3), (0, .ref (ad 0)), (1, .int p1), (2, .int p2)]) hx hb dX8_ask_53 hl (by decide) rfl (fun ls hl => ?_)
        refine lv_aload_n hx hb dX8_ask_55 rfl (lv_at hl 4 rfl) ?_
        refine va_get (D := D) (cl := vwCl) (ci := 8) (v := .ref (ad t2)) (C := RX8) (T := TX8) (N := 13) hx hb hts in_X8_ask_X8 hown hK hP 0 (wl_at (by decide) e7) rfl 1 (by decide) (hts (.fieldLink RX8 19 "EightReasons" "told" "LEightReasons$Suit;") (List.mem_of_getElem? (i := 3) rfl)) (fun _ h9 => h9) rfl dX8_ask_56 ?_
        refine lv_iload hx hb dX8_ask_59 (lv_at hl 1 rfl) ?_
        refine tVI (As := [.int v32_l5]) (rest := []) (i := t2) ⟨hx, hb, hml, hown, hts⟩ hK hE hP hD hS hA hAB (s_X5_isClaim_0 l B0 adK adV D cy ad fr0 tx rby rnx f hT t2 h3 v32_l5 _) (cwV 1 hts gX8_ask_X5_isClaim rfl rfl rfl (by decide +kernel) ⟨Nat.le_of_ble_eq_true rfl, Nat.le_of_ble_eq_true rfl⟩) (x_lt (x_suit0 h3)) 5 e15 rfl rfl hl.1 rfl (Nat.le_of_ble_eq_true rfl) dX8_ask_61 ⟨Nat.le_of_ble_eq_true rfl, Nat.le_of_ble_eq_true rfl⟩ (fun r g H locs hw hP hD hS => ?_)
        obtain ⟨hrs, rfl⟩ := hw
        obtain ⟨x23, rfl⟩ : ∃ q, q = r := ⟨_, rfl⟩
        rcases hrs with ⟨rfl, h24, h25⟩ | rfl
        · refine lv_if_eq (tgt := 86) hx hb dX8_ask_64 (by decide) (fun c => absurd c (by decide)) (fun _ => ?_)
          refine lv_iload_n hx hb dX8_ask_67 rfl (lv_at hl 3 rfl) ?_
          refine lv_iconst (v := (-1)) hx hb dX8_ask_68 (by decide) ?_
          have ttl_m1 := tl_m1
          refine lv_icmp_eq (tgt := 79) hx hb dX8_ask_69 (by decide) (fun c26 => ?_) (fun c26 => ?_)
          · have kc26 := c_eq c26
            exact j79 f H locs ls x21 (by omega) (by omega) (by omega) hT hP hD hS (lv_sub hl [0, 1, 2, 3, 4, 5, 6] rfl)
          · have kc26 := c_ne c26
            refine lv_iload hx hb dX8_ask_72 (lv_at hl 0 rfl) ?_
            refine lv_iload hx hb dX8_ask_74 (lv_at hl 2 rfl) ?_
            refine lv_icmp_ge (tgt := 86) hx hb dX8_ask_76 (by decide) (fun c27 => ?_) (fun c27 => ?_)
            · have kc27 := c_le c27
              exact j86 f H locs ls x21 v32_l4 v32_l3 (by omega) (by omega) (by omega) hT hP hD hS (lv_sub hl [0, 1, 2, 3, 4, 5, 6] rfl)
            · have kc27 := c_nle c27
              exact j79 f H locs ls x21 (by omega) (by omega) (by omega) hT hP hD hS (lv_sub hl [0, 1, 2, 3, 4, 5, 6] rfl)
        · refine lv_if_eq (tgt := 86) hx hb dX8_ask_64 (by decide) (fun _ => ?_) (fun c => absurd (by decide) c)
          exact j86 f H locs ls x21 v32_l4 v32_l3 (by omega) (by omega) (by omega) hT hP hD hS (lv_sub hl [0, 1, 2, 3, 4, 5, 6] rfl)
  refine lv_aload_n hx hb dX8_ask_0 rfl (lv_at hl 0 rfl) ?_
  refine lv_iload_n hx hb dX8_ask_1 rfl (lv_at hl 2 rfl) ?_
  obtain ⟨t28, x30, x31, e33, h29, h32⟩ := (show okX8 ad tx 0 (f 0) from hT.1 0 (by decide))
  refine tVV (As := [.int p2]) (rest := []) (i := 0) ⟨hx, hb, hml, hown, hts⟩ hK hE hP hD hS hA hAB (s_X8_findWays_0 l B0 adK adV D cy ad fr0 tx rby rnx f hT p2 _) (cwV 1 hts gX8_ask_X8_findWays rfl rfl rfl (by decide +kernel) ⟨Nat.le_of_ble_eq_true rfl, Nat.le_of_ble_eq_true rfl⟩) (by decide) 8 e33 rfl rfl hl.1 rfl (Nat.le_of_ble_eq_true rfl) dX8_ask_2 ⟨Nat.le_of_ble_eq_true rfl, Nat.le_of_ble_eq_true rfl⟩ (fun f H locs hw hP hD hS => ?_)
  obtain ⟨hrs, hT⟩ := hw
  refine lv_aload_n hx hb dX8_ask_5 rfl (lv_at hl 0 rfl) ?_
  obtain ⟨t34, x36, x37, e39, h35, h38⟩ := (show okX8 ad tx 0 (f 0) from hT.1 0 (by decide))
  refine va_get (D := D) (cl := vwCl) (ci := 8) (v := .ref (ad 24)) (C := RX8) (T := TX8) (N := 13) hx hb hts in_X8_ask_X8 hown hK hP 0 (wl_at (by decide) e39) rfl 11 (by decide) (hts (.fieldLink RX8 65 "EightReasons" "open" "LEightReasons$Ways;") (List.mem_of_getElem? (i := 1) rfl)) (fun _ h9 => h9) rfl dX8_ask_6 ?_
  obtain ⟨x40, e42, h41⟩ := (show okX6 ad 24 (f 24) from hT.1 24 (by decide))
  refine va_get (D := D) (cl := vwCl) (ci := 6) (v := .int x40) (C := RX6) (T := TX6) (N := 3) hx hb hts in_X8_ask_X6 hown hK hP 24 (wl_at (by decide) e42) rfl 0 (by decide) (hts (.fieldLink RX8 344 "EightReasons$Ways" "count" "I") (List.mem_of_getElem? (i := 2) rfl)) (fun _ h9 => h9) rfl dX8_ask_9 ?_
  have ttl_0 := tl_0
  refine lv_if_eq (tgt := 22) hx hb dX8_ask_12 (by decide) (fun c43 => ?_) (fun c43 => ?_)
  · have kc43 := c_eq c43
    refine lv_iconst (v := (-1)) hx hb dX8_ask_22 (by decide) ?_
    have ttl_m1 := tl_m1
    exact tI hx hb hr hlk rfl hP hS ⟨trivial, hT⟩ dX8_ask_23
  · have kc43 := c_ne c43
    refine lv_iload_n hx hb dX8_ask_15 rfl (lv_at hl 1 rfl) ?_
    refine tSI (As := [.int p1]) (rest := []) ⟨hx, hb, hml, hown, hts⟩ hK hE hP hD hS hA hAB (s_X8_isZeroOrOne_0 l B0 adK adV D cy ad f p1 _) (va_cwS 1 hts gX8_ask_X8_isZeroOrOne rfl rfl rfl (by decide +kernel) ⟨Nat.le_of_ble_eq_true rfl, Nat.le_of_ble_eq_true rfl⟩) rfl hl.1 rfl (Nat.le_of_ble_eq_true rfl) dX8_ask_16 ⟨Nat.le_of_ble_eq_true rfl, Nat.le_of_ble_eq_true rfl⟩ (fun r g H locs hw hP hD hS => ?_)
    obtain ⟨hrs, rfl⟩ := hw
    obtain ⟨x44, rfl⟩ : ∃ q, q = r := ⟨_, rfl⟩
    rcases hrs with ⟨rfl, h45, h46⟩ | rfl
    · refine lv_if_ne (tgt := 24) hx hb dX8_ask_19 (by decide) (fun _ => ?_) (fun c => absurd c (by decide))
      refine lv_iconst (v := (-1)) hx hb dX8_ask_24 (by decide) ?_
      refine lv_istore_n (lv' := [(3, .int (-1)), (0, .ref (ad 0)), (1, .int p1), (2, .int p2)]) hx hb dX8_ask_25 rfl hl (by decide) rfl (fun ls hl => ?_)
      refine lv_iconst (v := (-1)) hx hb dX8_ask_26 (by decide) ?_
      refine lv_istore (lv' := [(4, .int (-1)), (3, .int (-1)), (0, .ref (ad 0)), (1, .int p1), (2, .int p2)]) hx hb dX8_ask_27 hl (by decide) rfl (fun ls hl => ?_)
      refine lv_iconst (v := 0) hx hb dX8_ask_29 (by decide) ?_
      refine lv_istore (lv' := [(5, .int 0), (4, .int (-1)), (3, .int (-1)), (0, .ref (ad 0)), (1, .int p1), (2, .int p2)]) hx hb dX8_ask_30 hl (by decide) rfl (fun ls hl => ?_)
      have ttl_m1 := tl_m1
      exact j32 (Int.toNat (11 - (0 : Int32).toInt)) f H locs ls (0 : Int32) ((-1) : Int32) ((-1) : Int32) (by omega) (by omega) (by omega) (by omega) hT hP hD hS (lv_sub hl [0, 1, 2, 3, 4, 5] rfl)
    · refine lv_if_ne (tgt := 24) hx hb dX8_ask_19 (by decide) (fun c => absurd (by decide) c) (fun _ => ?_)
      refine lv_iconst (v := (-1)) hx hb dX8_ask_22 (by decide) ?_
      have ttl_m1 := tl_m1
      exact tI hx hb hr hlk rfl hP hS ⟨trivial, hT⟩ dX8_ask_23
set_option maxHeartbeats 4000000 in
set_option maxRecDepth 100000 in
theorem s_X8_image_0 (l : Launch) (B0 : Nat) (adK adV : Nat → Nat) (D : va_G) (cy : Nat → ClassId) (ad : Nat → Nat) (fr0 : Nat → va_E) (tx : Int32) (rby : Int32) (rnx : Int32) (f : Nat → va_E) (hT : TYx ad cy fr0 tx rby rnx f) (p1 : Int32) (sz : Nat) : TtI l yX8_image wsX8_image 2 81 [.ref (ad 0), .int p1] B0 adK adV D cy ad f sz (fun (r : Int32) (g : Nat → va_E) => True ∧ (TYx ad cy fr0 tx rby rnx g)) := by
  refine TtI.of (cc := cX8_image) (maxL := 2) (ty := .int) (own := RX8) (by decide) rfl (Nat.le_of_ble_eq_true rfl) rfl ?_
  intro p e s m below meth c A ls hx hb hr hml hts hown hlk hK hE hP hD hS hA hAB hl
  have hl : lv_has ls 2 [(0, .ref (ad 0)), (1, .int p1)] := hl
  refine st0 (fun H locs hP hS => ?_) hP hS
  refine lv_iload_n hx hb dX8_image_0 rfl (lv_at hl 1 rfl) ?_
  have ttl_0 := tl_0
  refine lv_if_lt (tgt := 9) hx hb dX8_image_1 (by decide) (fun c1 => ?_) (fun c1 => ?_)
  · have kc1 := c_lt c1
    refine lv_iconst (v := (-1)) hx hb dX8_image_9 (by decide) ?_
    have ttl_m1 := tl_m1
    exact tI hx hb hr hlk rfl hP hS ⟨trivial, hT⟩ dX8_image_10
  · have kc1 := c_nlt c1
    refine lv_iload_n hx hb dX8_image_4 rfl (lv_at hl 1 rfl) ?_
    refine lv_iconst (v := 3) hx hb dX8_image_5 (by decide) ?_
    have ttl_3 := tl_3
    refine lv_icmp_lt (tgt := 11) hx hb dX8_image_6 (by decide) (fun c2 => ?_) (fun c2 => ?_)
    · have kc2 := c_lt c2
      refine lv_aload_n hx hb dX8_image_11 rfl (lv_at hl 0 rfl) ?_
      obtain ⟨t3, x5, x6, e8, h4, h7⟩ := (show okX8 ad tx 0 (f 0) from hT.1 0 (by decide))
      refine va_get (D := D) (cl := vwCl) (ci := 8) (v := .ref (ad 9)) (C := RX8) (T := TX8) (N := 13) hx hb hts in_X8_image_X8 hown hK hP 0 (wl_at (by decide) e8) rfl 4 (by decide) (hts (.fieldLink RX8 37 "EightReasons" "boxes" "[LEightReasons$State;") (List.mem_of_getElem? (i := 1) rfl)) (fun _ h9 => h9) rfl dX8_image_12 ?_
      refine lv_iload_n hx hb dX8_image_15 rfl (lv_at hl 1 rfl) ?_
      obtain ⟨g11, e9, h10⟩ := (show okS ad cy 3 142 (f 9) from hT.1 9 (by decide))
      have h13 := clampN (n := 3) (x := p1) (by omega) (by omega)
      refine va_aldq (C := RX4) hx hb hK hP 9 4 (wl_at (by decide) e9) rfl (vp_in_iff.mpr ⟨by omega, by omega⟩) dX8_image_16 (tpr (v := ad (142 + 2 * Int32.toNatClampNeg p1)) (h10 _ h13) ?_)
      have h12 : isState (142 + 2 * Int32.toNatClampNeg p1) := Or.inr ⟨41 + Int32.toNatClampNeg p1, by omega, by omega⟩
      refine lv_aload_n hx hb dX8_image_17 rfl (lv_at hl 0 rfl) ?_
      refine tVR (As := []) (rest := [.ref (ad (142 + 2 * Int32.toNatClampNeg p1))]) (i := 0) ⟨hx, hb, hml, hown, hts⟩ hK hE hP hD hS hA hAB (s_X8_now_0 l B0 adK adV D cy ad fr0 tx rby rnx f hT _) (cwV 0 hts gX8_image_X8_now rfl rfl rfl (by decide +kernel) ⟨Nat.le_of_ble_eq_true rfl, Nat.le_of_ble_eq_true rfl⟩) (by decide) 8 e8 rfl rfl hl.1 rfl (Nat.le_of_ble_eq_true rfl) dX8_image_18 ⟨Nat.le_of_ble_eq_true rfl, Nat.le_of_ble_eq_true rfl⟩ (fun ra g H locs hw hra hP hD hS => ?_)
      obtain ⟨hrs, rfl⟩ := hw
      obtain ⟨t14, h15, rfl⟩ := hra
      obtain ⟨x16, x18, x19, x20, e21, h17⟩ := (ty_state hT h12)
      refine tVV (As := [.ref (ad t14)]) (rest := []) (i := (142 + 2 * Int32.toNatClampNeg p1)) ⟨hx, hb, hml, hown, hts⟩ hK hE hP hD hS hA hAB (s_X4_copy_0 l B0 adK adV D cy ad fr0 tx rby rnx f hT (142 + 2 * Int32.toNatClampNeg p1) h12 t14 h15 _) (cwV 1 hts gX8_image_X4_copy rfl rfl rfl (by decide +kernel) ⟨Nat.le_of_ble_eq_true rfl, Nat.le_of_ble_eq_true rfl⟩) (x_lt (x_state0 h12)) 4 e21 rfl rfl hl.1 rfl (Nat.le_of_ble_eq_true rfl) dX8_image_21 ⟨Nat.le_of_ble_eq_true rfl, Nat.le_of_ble_eq_true rfl⟩ (fun f H locs hw hP hD hS => ?_)
      obtain ⟨hrs, hT⟩ := hw
      refine lv_aload_n hx hb dX8_image_24 rfl (lv_at hl 0 rfl) ?_
      refine lv_dup hx hb dX8_image_25 rfl ?_
      obtain ⟨t22, x24, x25, e27, h23, h26⟩ := (show okX8 ad tx 0 (f 0) from hT.1 0 (by decide))
      refine va_get (D := D) (cl := vwCl) (ci := 8) (v := .int x24) (C := RX8) (T := TX8) (N := 13) hx hb hts in_X8_image_X8 hown hK hP 0 (wl_at (by decide) e27) rfl 5 (by decide) (hts (.fieldLink RX8 96 "EightReasons" "filled" "I") (List.mem_of_getElem? (i := 2) rfl)) (fun _ h9 => h9) rfl dX8_image_26 ?_
      refine lv_iconst (v := 1) hx hb dX8_image_29 (by decide) ?_
      refine lv_iload_n hx hb dX8_image_30 rfl (lv_at hl 1 rfl) ?_
      refine lv_ishl hx hb dX8_image_31 ?_
      refine lv_topi (fun x28 ex28 => ?_)
      have hx28 := r_shl (K := 2) (M := 4) ex28 (by decide) (by decide) (by omega) (by omega)
      refine lv_ior hx hb dX8_image_32 ?_
      refine lv_topi (fun x29 ex29 => ?_)
      refine va_put (D := D) (cl := vwCl) (ci := 8) (v := .int x29) (ty := tyX8 5) (C := RX8) (T := TX8) (N := 13) hx hb hts in_X8_image_X8 tyX8 tyX8_ok nmX8 hown hK hP hD hS 0 (wl_at (by decide) e27) rfl 5 (by decide) (hts (.fieldLink RX8 96 "EightReasons" "filled" "I") (List.mem_of_getElem? (i := 2) rfl)) (fun _ h9 => h9) rfl (tyX8_ok 5 (by decide)) rfl rfl (Nat.le_of_ble_eq_true rfl) dX8_image_33 (fun H locs hP hD hS => ?_)
      obtain ⟨f, hT, hP, hD, e30, hj31⟩ := stU (by decide) (TYx.up hT (by decide) (show OKx ad cy tx rby rnx 0 _ from (show okX8 ad tx 0 _ from ⟨t22, x29, x25, rfl, h23, by omega⟩))) hP hD
      refine lv_aload_n hx hb dX8_image_36 rfl (lv_at hl 0 rfl) ?_
      refine tVR (As := []) (rest := []) (i := 0) ⟨hx, hb, hml, hown, hts⟩ hK hE hP hD hS hA hAB (s_X8_now_0 l B0 adK adV D cy ad fr0 tx rby rnx f hT _) (cwV 0 hts gX8_image_X8_now rfl rfl rfl (by decide +kernel) ⟨Nat.le_of_ble_eq_true rfl, Nat.le_of_ble_eq_true rfl⟩) (by decide) 8 e30 rfl rfl hl.1 rfl (Nat.le_of_ble_eq_true rfl) dX8_image_37 ⟨Nat.le_of_ble_eq_true rfl, Nat.le_of_ble_eq_true rfl⟩ (fun ra g H locs hw hra hP hD hS => ?_)
      obtain ⟨hrs, rfl⟩ := hw
      obtain ⟨t32, h33, rfl⟩ := hra
      obtain ⟨x34, x36, x37, x38, e39, h35⟩ := (ty_state hT h33)
      refine va_get (D := D) (cl := vwCl) (ci := 4) (v := .int x37) (C := RX4) (T := TX4) (N := 5) hx hb hts in_X8_image_X4 hown hK hP t32 (wl_at (x_lt (x_state0 h33)) e39) rfl 3 (by decide) (hts (.fieldLink RX8 160 "EightReasons$State" "day" "I") (List.mem_of_getElem? (i := 3) rfl)) (fun _ h9 => h9) rfl dX8_image_40 ?_
      exact tI hx hb hr hlk rfl hP hS ⟨trivial, hT⟩ dX8_image_43
    · have kc2 := c_nlt c2
      refine lv_iconst (v := (-1)) hx hb dX8_image_9 (by decide) ?_
      have ttl_m1 := tl_m1
      exact tI hx hb hr hlk rfl hP hS ⟨trivial, hT⟩ dX8_image_10
