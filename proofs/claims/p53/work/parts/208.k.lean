set_option maxRecDepth 20000 in
theorem ggX9_lack_X9_isClaim : GoodIn wsX9_lack wsX9_isClaim := goodIn_r _ [5, 6, 7, 8, 9, 10, 4, 11, 12, 13, 14, 15, 16, 17, 18, 19, 108, 109, 110, 111, 112, 113, 114, 115, 116, 117, 118, 119, 120, 121, 122, 123, 124, 125, 126, 127, 128, 129, 130, 131, 132, 133, 134, 135, 136, 137, 138, 139, 140, 141, 142, 143, 144, 145, 146, 147, 148, 149, 150, 151, 152, 153, 154, 155, 156, 157, 158, 159, 160, 161, 162, 163, 164, 165, 166, 167, 168, 169, 170, 171] rfl rfl
set_option maxRecDepth 20000 in
theorem gX9_lack_X9_isClaim : GoodIn wsX9_lack (wsV RX9 390 RX9 yX9_isClaim wsX9_isClaim) := goodIn_app (goodIn_of _ (by decide +kernel)) ggX9_lack_X9_isClaim
set_option maxRecDepth 20000 in
theorem ggX9_lack_X9_standNow : GoodIn wsX9_lack wsX9_standNow := goodIn_r _ [23, 24, 25, 26, 27, 4, 28, 29, 30, 31, 32, 33, 34, 35, 36, 37, 7, 38, 39, 40, 41, 42, 43, 44, 45, 46, 47, 48, 49, 50, 51, 52, 53, 54, 55, 56, 57, 58, 59, 60, 61, 62, 63, 64, 65, 66, 67, 68, 69, 70, 71, 72, 73, 74, 75, 76, 77, 78, 79, 80, 81, 82, 83, 84, 85, 86, 87, 88, 89, 6, 90, 91, 92, 93, 94, 95, 96, 97, 98, 99, 12, 13, 14, 15, 16, 100, 101, 102, 103, 8, 9, 10, 11, 17, 18, 19, 1, 2, 3, 5, 104, 105, 106, 107, 108, 109, 110, 111, 112, 113, 114, 115, 116, 117, 118, 119, 120, 121, 122, 123, 124, 125, 126, 127, 128, 129, 130, 131, 132, 133, 134, 135, 136, 137, 138, 139, 140, 141, 142, 143, 144, 145, 146, 147, 148, 149, 150, 151, 152, 153, 154, 155, 156, 157, 158, 159, 160, 161, 162, 163, 164, 165, 166, 167, 168, 169, 170, 171] rfl rfl
set_option maxRecDepth 20000 in
theorem gX9_lack_X9_standNow : GoodIn wsX9_lack (wsV RX9 402 RX9 yX9_standNow wsX9_standNow) := goodIn_app (goodIn_of _ (by decide +kernel)) ggX9_lack_X9_standNow
set_option maxRecDepth 20000 in
theorem ggX9_lack_X9_bit : GoodIn wsX9_lack wsX9_bit := goodIn_r _ [45] rfl rfl
set_option maxRecDepth 20000 in
theorem gX9_lack_X9_bit : GoodIn wsX9_lack (va_wsS RX9 245 yX9_bit wsX9_bit) := goodIn_app (goodIn_of _ (by decide +kernel)) ggX9_lack_X9_bit
set_option maxRecDepth 20000 in
theorem ggX9_lack_X9_needOf : GoodIn wsX9_lack wsX9_needOf := goodIn_r _ [86, 87, 88, 89, 6, 7, 108, 109, 110, 111, 112, 113, 114, 115, 116, 117, 118, 119, 120, 121, 122, 123, 124, 125, 126, 127, 128, 129, 130, 131, 132, 133, 134, 135, 136, 137, 138, 139, 140, 141, 142, 143, 144, 145, 146, 147, 148, 149, 150, 151, 152, 153, 154, 155, 156, 157, 158, 159, 160, 161, 162, 163, 164, 165, 166, 167, 168, 169, 170, 171] rfl rfl
set_option maxRecDepth 20000 in
theorem gX9_lack_X9_needOf : GoodIn wsX9_lack (wsV RX9 333 RX9 yX9_needOf wsX9_needOf) := goodIn_app (goodIn_of _ (by decide +kernel)) ggX9_lack_X9_needOf
set_option maxRecDepth 20000 in
theorem ggX9_lack_X9_borne : GoodIn wsX9_lack wsX9_borne := goodIn_r _ [107, 36, 38, 39, 40, 4, 41, 42, 7, 62, 63, 64, 65, 66, 74, 75, 76, 77, 78, 43, 44, 45, 108, 109, 110, 111, 112, 113, 114, 115, 116, 117, 118, 119, 120, 121, 122, 123, 124, 125, 126, 127, 128, 129, 130, 131, 132, 133, 134, 135, 136, 137, 138, 139, 140, 141, 142, 143, 144, 145, 146, 147, 148, 149, 150, 151, 152, 153, 154, 155, 156, 157, 158, 159, 160, 161, 162, 163, 164, 165, 166, 167, 168, 169, 170, 171] rfl rfl
set_option maxRecDepth 20000 in
theorem gX9_lack_X9_borne : GoodIn wsX9_lack (wsV RX9 393 RX9 yX9_borne wsX9_borne) := goodIn_app (goodIn_of _ (by decide +kernel)) ggX9_lack_X9_borne
theorem dX9_lack_0 : decode cX9_lack 0 = .ok (.aload_n 0, 1) := by decide +kernel
theorem dX9_lack_1 : decode cX9_lack 1 = .ok (.iload_n 1, 1) := by decide +kernel
theorem dX9_lack_2 : decode cX9_lack 2 = .ok (.invokevirtual 390, 3) := by decide +kernel
theorem dX9_lack_5 : decode cX9_lack 5 = .ok (.ifCond .ne 5, 3) := by decide +kernel
theorem dX9_lack_8 : decode cX9_lack 8 = .ok (.iconst (-1), 1) := by decide +kernel
theorem dX9_lack_9 : decode cX9_lack 9 = .ok (.ireturn, 1) := by decide +kernel
theorem dX9_lack_10 : decode cX9_lack 10 = .ok (.aload_n 0, 1) := by decide +kernel
theorem dX9_lack_11 : decode cX9_lack 11 = .ok (.invokevirtual 402, 3) := by decide +kernel
theorem dX9_lack_14 : decode cX9_lack 14 = .ok (.istore_n 2, 1) := by decide +kernel
theorem dX9_lack_15 : decode cX9_lack 15 = .ok (.iload_n 2, 1) := by decide +kernel
theorem dX9_lack_16 : decode cX9_lack 16 = .ok (.iload_n 1, 1) := by decide +kernel
theorem dX9_lack_17 : decode cX9_lack 17 = .ok (.invokestatic 245, 3) := by decide +kernel
theorem dX9_lack_20 : decode cX9_lack 20 = .ok (.ifCond .eq 7, 3) := by decide +kernel
theorem dX9_lack_23 : decode cX9_lack 23 = .ok (.iconst 0, 1) := by decide +kernel
theorem dX9_lack_24 : decode cX9_lack 24 = .ok (.goto 15, 3) := by decide +kernel
theorem dX9_lack_27 : decode cX9_lack 27 = .ok (.aload_n 0, 1) := by decide +kernel
theorem dX9_lack_28 : decode cX9_lack 28 = .ok (.iload_n 1, 1) := by decide +kernel
theorem dX9_lack_29 : decode cX9_lack 29 = .ok (.invokevirtual 333, 3) := by decide +kernel
theorem dX9_lack_32 : decode cX9_lack 32 = .ok (.aload_n 0, 1) := by decide +kernel
theorem dX9_lack_33 : decode cX9_lack 33 = .ok (.iload_n 1, 1) := by decide +kernel
theorem dX9_lack_34 : decode cX9_lack 34 = .ok (.iload_n 2, 1) := by decide +kernel
theorem dX9_lack_35 : decode cX9_lack 35 = .ok (.invokevirtual 393, 3) := by decide +kernel
theorem dX9_lack_38 : decode cX9_lack 38 = .ok (.isub, 1) := by decide +kernel
theorem dX9_lack_39 : decode cX9_lack 39 = .ok (.ireturn, 1) := by decide +kernel
set_option maxRecDepth 20000 in
theorem ggX9_rank_X9_isPoint : GoodIn wsX9_rank wsX9_isPoint := goodIn_r _ [6, 7, 8, 9, 5, 10, 11, 12, 13, 14, 15, 108, 109, 110, 111, 112, 113, 114, 115, 116, 117, 118, 119, 120, 121, 122, 123, 124, 125, 126, 127, 128, 129, 130, 131, 132, 133, 134, 135, 136, 137, 138, 139, 140, 141, 142, 143, 144, 145, 146, 147, 148, 149, 150, 151, 152, 153, 154, 155, 156, 157, 158, 159, 160, 161, 162, 163, 164, 165, 166, 167, 168, 169, 170, 171] rfl rfl
set_option maxRecDepth 20000 in
theorem gX9_rank_X9_isPoint : GoodIn wsX9_rank (wsV RX9 353 RX9 yX9_isPoint wsX9_isPoint) := goodIn_app (goodIn_of _ (by decide +kernel)) ggX9_rank_X9_isPoint
set_option maxRecDepth 20000 in
theorem ggX9_rank_X9_standNow : GoodIn wsX9_rank wsX9_standNow := goodIn_r _ [19, 20, 21, 22, 23, 5, 24, 1, 25, 26, 27, 28, 29, 30, 31, 32, 12, 33, 34, 35, 36, 37, 38, 39, 40, 41, 42, 43, 44, 45, 46, 47, 48, 49, 50, 51, 52, 53, 54, 55, 56, 57, 58, 59, 60, 61, 62, 63, 64, 65, 66, 67, 68, 69, 70, 71, 72, 73, 74, 75, 76, 77, 78, 79, 80, 81, 82, 83, 84, 85, 86, 87, 88, 89, 90, 91, 92, 93, 94, 95, 7, 8, 9, 10, 11, 96, 97, 98, 99, 2, 3, 4, 6, 13, 14, 15, 100, 101, 102, 103, 104, 105, 106, 107, 108, 109, 110, 111, 112, 113, 114, 115, 116, 117, 118, 119, 120, 121, 122, 123, 124, 125, 126, 127, 128, 129, 130, 131, 132, 133, 134, 135, 136, 137, 138, 139, 140, 141, 142, 143, 144, 145, 146, 147, 148, 149, 150, 151, 152, 153, 154, 155, 156, 157, 158, 159, 160, 161, 162, 163, 164, 165, 166, 167, 168, 169, 170, 171] rfl rfl
set_option maxRecDepth 20000 in
theorem gX9_rank_X9_standNow : GoodIn wsX9_rank (wsV RX9 402 RX9 yX9_standNow wsX9_standNow) := goodIn_app (goodIn_of _ (by decide +kernel)) ggX9_rank_X9_standNow
set_option maxRecDepth 20000 in
theorem ggX9_rank_X9_bit : GoodIn wsX9_rank wsX9_bit := goodIn_r _ [40] rfl rfl
set_option maxRecDepth 20000 in
theorem gX9_rank_X9_bit : GoodIn wsX9_rank (va_wsS RX9 245 yX9_bit wsX9_bit) := goodIn_app (goodIn_of _ (by decide +kernel)) ggX9_rank_X9_bit
theorem dX9_rank_0 : decode cX9_rank 0 = .ok (.aload_n 0, 1) := by decide +kernel
theorem dX9_rank_1 : decode cX9_rank 1 = .ok (.iload_n 1, 1) := by decide +kernel
theorem dX9_rank_2 : decode cX9_rank 2 = .ok (.invokevirtual 353, 3) := by decide +kernel
theorem dX9_rank_5 : decode cX9_rank 5 = .ok (.ifCond .ne 5, 3) := by decide +kernel
theorem dX9_rank_8 : decode cX9_rank 8 = .ok (.iconst (-1), 1) := by decide +kernel
theorem dX9_rank_9 : decode cX9_rank 9 = .ok (.ireturn, 1) := by decide +kernel
theorem dX9_rank_10 : decode cX9_rank 10 = .ok (.aload_n 0, 1) := by decide +kernel
theorem dX9_rank_11 : decode cX9_rank 11 = .ok (.invokevirtual 402, 3) := by decide +kernel
theorem dX9_rank_14 : decode cX9_rank 14 = .ok (.istore_n 2, 1) := by decide +kernel
theorem dX9_rank_15 : decode cX9_rank 15 = .ok (.iload_n 2, 1) := by decide +kernel
theorem dX9_rank_16 : decode cX9_rank 16 = .ok (.iload_n 1, 1) := by decide +kernel
theorem dX9_rank_17 : decode cX9_rank 17 = .ok (.invokestatic 245, 3) := by decide +kernel
theorem dX9_rank_20 : decode cX9_rank 20 = .ok (.ifCond .eq 12, 3) := by decide +kernel
theorem dX9_rank_23 : decode cX9_rank 23 = .ok (.aload_n 0, 1) := by decide +kernel
theorem dX9_rank_24 : decode cX9_rank 24 = .ok (.getfield 91, 3) := by decide +kernel
theorem dX9_rank_27 : decode cX9_rank 27 = .ok (.iload_n 1, 1) := by decide +kernel
theorem dX9_rank_28 : decode cX9_rank 28 = .ok (.iaload, 1) := by decide +kernel
theorem dX9_rank_29 : decode cX9_rank 29 = .ok (.goto 4, 3) := by decide +kernel
theorem dX9_rank_32 : decode cX9_rank 32 = .ok (.iconst (-1), 1) := by decide +kernel
theorem dX9_rank_33 : decode cX9_rank 33 = .ok (.ireturn, 1) := by decide +kernel
set_option maxRecDepth 20000 in
theorem ggX9_fall_X9_isClaim : GoodIn wsX9_fall wsX9_isClaim := goodIn_r _ [6, 7, 8, 9, 10, 11, 5, 12, 13, 14, 15, 16, 17, 18, 19, 20, 117, 118, 119, 120, 121, 122, 123, 124, 125, 126, 127, 128, 129, 130, 131, 132, 133, 134, 135, 136, 137, 138, 139, 140, 141, 142, 143, 144, 145, 146, 147, 148, 149, 150, 151, 152, 153, 154, 155, 156, 157, 158, 159, 160, 161, 162, 163, 164, 165, 166, 167, 168, 169, 170, 171, 172, 173, 174, 175, 176, 177, 178, 179, 180] rfl rfl
set_option maxRecDepth 20000 in
theorem gX9_fall_X9_isClaim : GoodIn wsX9_fall (wsV RX9 390 RX9 yX9_isClaim wsX9_isClaim) := goodIn_app (goodIn_of _ (by decide +kernel)) ggX9_fall_X9_isClaim
set_option maxRecDepth 20000 in
theorem ggX9_fall_X9_keepNow : GoodIn wsX9_fall wsX9_keepNow := goodIn_r _ [24, 25, 1, 117, 118, 119, 120, 121, 122, 123, 124, 125, 126, 127, 128, 129, 130, 131, 132, 133, 134, 135, 136, 137, 138, 139, 140, 141, 142, 143, 144, 145, 146, 147, 148, 149, 150, 151, 152, 153, 154, 155, 156, 157, 158, 159, 160, 161, 162, 163, 164, 165, 166, 167, 168, 169, 170, 171, 172, 173, 174, 175, 176, 177, 178, 179, 180] rfl rfl
set_option maxRecDepth 20000 in
theorem gX9_fall_X9_keepNow : GoodIn wsX9_fall (wsV RX9 430 RX9 yX9_keepNow wsX9_keepNow) := goodIn_app (goodIn_of _ (by decide +kernel)) ggX9_fall_X9_keepNow
set_option maxRecDepth 20000 in
theorem ggX9_fall_X9_standNow : GoodIn wsX9_fall wsX9_standNow := goodIn_r _ [29, 1, 30, 31, 32, 5, 33, 34, 35, 36, 37, 38, 39, 40, 41, 42, 8, 43, 44, 45, 46, 47, 48, 49, 50, 51, 52, 53, 54, 55, 56, 57, 58, 59, 60, 61, 62, 63, 64, 65, 66, 67, 68, 69, 70, 71, 72, 73, 74, 75, 76, 77, 78, 79, 80, 81, 82, 83, 84, 85, 86, 87, 88, 89, 90, 91, 92, 93, 94, 7, 95, 96, 97, 98, 99, 100, 101, 102, 103, 104, 13, 14, 15, 16, 17, 105, 106, 107, 108, 9, 10, 11, 12, 18, 19, 20, 2, 3, 4, 6, 109, 110, 111, 112, 117, 118, 119, 120, 121, 122, 123, 124, 125, 126, 127, 128, 129, 130, 131, 132, 133, 134, 135, 136, 137, 138, 139, 140, 141, 142, 143, 144, 145, 146, 147, 148, 149, 150, 151, 152, 153, 154, 155, 156, 157, 158, 159, 160, 161, 162, 163, 164, 165, 166, 167, 168, 169, 170, 171, 172, 173, 174, 175, 176, 177, 178, 179, 180] rfl rfl
set_option maxRecDepth 20000 in
theorem gX9_fall_X9_standNow : GoodIn wsX9_fall (wsV RX9 402 RX9 yX9_standNow wsX9_standNow) := goodIn_app (goodIn_of _ (by decide +kernel)) ggX9_fall_X9_standNow
set_option maxRecDepth 20000 in
theorem ggX9_fall_X9_bit : GoodIn wsX9_fall wsX9_bit := goodIn_r _ [50] rfl rfl
set_option maxRecDepth 20000 in
theorem gX9_fall_X9_bit : GoodIn wsX9_fall (va_wsS RX9 245 yX9_bit wsX9_bit) := goodIn_app (goodIn_of _ (by decide +kernel)) ggX9_fall_X9_bit
set_option maxRecDepth 20000 in
theorem ggX9_fall_X9_bringBack : GoodIn wsX9_fall wsX9_bringBack := goodIn_r _ [116, 1, 25, 117, 118, 119, 120, 121, 122, 123, 124, 125, 126, 127, 128, 129, 130, 131, 132, 133, 134, 135, 136, 137, 138, 139, 140, 141, 142, 143, 144, 145, 146, 147, 148, 149, 150, 151, 152, 153, 154, 155, 156, 157, 158, 159, 160, 161, 162, 163, 164, 165, 166, 167, 168, 169, 170, 171, 172, 173, 174, 175, 176, 177, 178, 179, 180] rfl rfl
set_option maxRecDepth 20000 in
theorem gX9_fall_X9_bringBack : GoodIn wsX9_fall (wsV RX9 433 RX9 yX9_bringBack wsX9_bringBack) := goodIn_app (goodIn_of _ (by decide +kernel)) ggX9_fall_X9_bringBack
theorem dX9_fall_0 : decode cX9_fall 0 = .ok (.aload_n 0, 1) := by decide +kernel
theorem dX9_fall_1 : decode cX9_fall 1 = .ok (.iload_n 1, 1) := by decide +kernel
theorem dX9_fall_2 : decode cX9_fall 2 = .ok (.invokevirtual 390, 3) := by decide +kernel
theorem dX9_fall_5 : decode cX9_fall 5 = .ok (.ifCond .ne 5, 3) := by decide +kernel
theorem dX9_fall_8 : decode cX9_fall 8 = .ok (.iconst (-1), 1) := by decide +kernel
theorem dX9_fall_9 : decode cX9_fall 9 = .ok (.ireturn, 1) := by decide +kernel
theorem dX9_fall_10 : decode cX9_fall 10 = .ok (.aload_n 0, 1) := by decide +kernel
theorem dX9_fall_11 : decode cX9_fall 11 = .ok (.invokevirtual 430, 3) := by decide +kernel
theorem dX9_fall_14 : decode cX9_fall 14 = .ok (.iconst 0, 1) := by decide +kernel
theorem dX9_fall_15 : decode cX9_fall 15 = .ok (.istore_n 2, 1) := by decide +kernel
theorem dX9_fall_16 : decode cX9_fall 16 = .ok (.iload_n 2, 1) := by decide +kernel
theorem dX9_fall_17 : decode cX9_fall 17 = .ok (.bipush 60, 2) := by decide +kernel
theorem dX9_fall_19 : decode cX9_fall 19 = .ok (.if_icmp .gt 31, 3) := by decide +kernel
theorem dX9_fall_22 : decode cX9_fall 22 = .ok (.aload_n 0, 1) := by decide +kernel
theorem dX9_fall_23 : decode cX9_fall 23 = .ok (.invokevirtual 402, 3) := by decide +kernel
theorem dX9_fall_26 : decode cX9_fall 26 = .ok (.iload_n 1, 1) := by decide +kernel
theorem dX9_fall_27 : decode cX9_fall 27 = .ok (.invokestatic 245, 3) := by decide +kernel
theorem dX9_fall_30 : decode cX9_fall 30 = .ok (.ifCond .eq 20, 3) := by decide +kernel
theorem dX9_fall_33 : decode cX9_fall 33 = .ok (.aload_n 0, 1) := by decide +kernel
theorem dX9_fall_34 : decode cX9_fall 34 = .ok (.getfield 76, 3) := by decide +kernel
theorem dX9_fall_37 : decode cX9_fall 37 = .ok (.bipush 14, 2) := by decide +kernel
theorem dX9_fall_39 : decode cX9_fall 39 = .ok (.dup2, 1) := by decide +kernel
theorem dX9_fall_40 : decode cX9_fall 40 = .ok (.iaload, 1) := by decide +kernel
theorem dX9_fall_41 : decode cX9_fall 41 = .ok (.iconst 1, 1) := by decide +kernel
theorem dX9_fall_42 : decode cX9_fall 42 = .ok (.iadd, 1) := by decide +kernel
theorem dX9_fall_43 : decode cX9_fall 43 = .ok (.iastore, 1) := by decide +kernel
theorem dX9_fall_44 : decode cX9_fall 44 = .ok (.iinc 2 1, 3) := by decide +kernel
theorem dX9_fall_47 : decode cX9_fall 47 = .ok (.goto (-31), 3) := by decide +kernel
theorem dX9_fall_50 : decode cX9_fall 50 = .ok (.aload_n 0, 1) := by decide +kernel
theorem dX9_fall_51 : decode cX9_fall 51 = .ok (.invokevirtual 433, 3) := by decide +kernel
theorem dX9_fall_54 : decode cX9_fall 54 = .ok (.iload_n 2, 1) := by decide +kernel
theorem dX9_fall_55 : decode cX9_fall 55 = .ok (.bipush 60, 2) := by decide +kernel
theorem dX9_fall_57 : decode cX9_fall 57 = .ok (.if_icmp .gt 7, 3) := by decide +kernel
theorem dX9_fall_60 : decode cX9_fall 60 = .ok (.iload_n 2, 1) := by decide +kernel
theorem dX9_fall_61 : decode cX9_fall 61 = .ok (.goto 4, 3) := by decide +kernel
theorem dX9_fall_64 : decode cX9_fall 64 = .ok (.iconst (-1), 1) := by decide +kernel
theorem dX9_fall_65 : decode cX9_fall 65 = .ok (.ireturn, 1) := by decide +kernel
set_option maxRecDepth 20000 in
theorem ggX9_isRing_X9_many : GoodIn wsX9_isRing wsX9_many := goodIn_r _ [5, 6, 7, 39, 40, 41, 42, 43, 44, 45, 46, 47, 48, 49, 50, 51, 52, 53, 54, 55, 56, 57, 58, 59, 60, 61, 62, 63, 64, 65, 66, 67, 68, 69, 70, 71, 72, 73, 74, 75, 76, 77, 78, 79, 80, 81, 82, 83, 84, 85, 86, 87, 88, 89, 90, 91, 92, 93, 94, 95, 96, 97, 98, 99, 100, 101, 102] rfl rfl
set_option maxRecDepth 20000 in
theorem gX9_isRing_X9_many : GoodIn wsX9_isRing (wsV RX9 343 RX9 yX9_many wsX9_many) := goodIn_app (goodIn_of _ (by decide +kernel)) ggX9_isRing_X9_many
set_option maxRecDepth 20000 in
theorem ggX9_isRing_X9_bit : GoodIn wsX9_isRing wsX9_bit := goodIn_r _ [10] rfl rfl
set_option maxRecDepth 20000 in
theorem gX9_isRing_X9_bit : GoodIn wsX9_isRing (va_wsS RX9 245 yX9_bit wsX9_bit) := goodIn_app (goodIn_of _ (by decide +kernel)) ggX9_isRing_X9_bit
set_option maxRecDepth 20000 in
theorem ggX9_isRing_X9_borne : GoodIn wsX9_isRing wsX9_borne := goodIn_r _ [14, 15, 16, 17, 18, 4, 19, 20, 7, 21, 22, 23, 24, 25, 26, 27, 28, 29, 30, 8, 9, 10, 39, 40, 41, 42, 43, 44, 45, 46, 47, 48, 49, 50, 51, 52, 53, 54, 55, 56, 57, 58, 59, 60, 61, 62, 63, 64, 65, 66, 67, 68, 69, 70, 71, 72, 73, 74, 75, 76, 77, 78, 79, 80, 81, 82, 83, 84, 85, 86, 87, 88, 89, 90, 91, 92, 93, 94, 95, 96, 97, 98, 99, 100, 101, 102] rfl rfl
set_option maxRecDepth 20000 in
theorem gX9_isRing_X9_borne : GoodIn wsX9_isRing (wsV RX9 393 RX9 yX9_borne wsX9_borne) := goodIn_app (goodIn_of _ (by decide +kernel)) ggX9_isRing_X9_borne
set_option maxRecDepth 20000 in
theorem ggX9_isRing_X9_needOf : GoodIn wsX9_isRing wsX9_needOf := goodIn_r _ [34, 35, 36, 37, 38, 7, 39, 40, 41, 42, 43, 44, 45, 46, 47, 48, 49, 50, 51, 52, 53, 54, 55, 56, 57, 58, 59, 60, 61, 62, 63, 64, 65, 66, 67, 68, 69, 70, 71, 72, 73, 74, 75, 76, 77, 78, 79, 80, 81, 82, 83, 84, 85, 86, 87, 88, 89, 90, 91, 92, 93, 94, 95, 96, 97, 98, 99, 100, 101, 102] rfl rfl
set_option maxRecDepth 20000 in
theorem gX9_isRing_X9_needOf : GoodIn wsX9_isRing (wsV RX9 333 RX9 yX9_needOf wsX9_needOf) := goodIn_app (goodIn_of _ (by decide +kernel)) ggX9_isRing_X9_needOf
theorem dX9_isRing_0 : decode cX9_isRing 0 = .ok (.iconst 0, 1) := by decide +kernel
theorem dX9_isRing_1 : decode cX9_isRing 1 = .ok (.istore_n 2, 1) := by decide +kernel
theorem dX9_isRing_2 : decode cX9_isRing 2 = .ok (.iload_n 2, 1) := by decide +kernel
theorem dX9_isRing_3 : decode cX9_isRing 3 = .ok (.aload_n 0, 1) := by decide +kernel
theorem dX9_isRing_4 : decode cX9_isRing 4 = .ok (.invokevirtual 343, 3) := by decide +kernel
theorem dX9_isRing_7 : decode cX9_isRing 7 = .ok (.if_icmp .ge 33, 3) := by decide +kernel
theorem dX9_isRing_10 : decode cX9_isRing 10 = .ok (.iload_n 1, 1) := by decide +kernel
theorem dX9_isRing_11 : decode cX9_isRing 11 = .ok (.iload_n 2, 1) := by decide +kernel
theorem dX9_isRing_12 : decode cX9_isRing 12 = .ok (.invokestatic 245, 3) := by decide +kernel
theorem dX9_isRing_15 : decode cX9_isRing 15 = .ok (.ifCond .eq 19, 3) := by decide +kernel
theorem dX9_isRing_18 : decode cX9_isRing 18 = .ok (.aload_n 0, 1) := by decide +kernel
theorem dX9_isRing_19 : decode cX9_isRing 19 = .ok (.iload_n 2, 1) := by decide +kernel
theorem dX9_isRing_20 : decode cX9_isRing 20 = .ok (.iload_n 1, 1) := by decide +kernel
theorem dX9_isRing_21 : decode cX9_isRing 21 = .ok (.invokevirtual 393, 3) := by decide +kernel
theorem dX9_isRing_24 : decode cX9_isRing 24 = .ok (.aload_n 0, 1) := by decide +kernel
theorem dX9_isRing_25 : decode cX9_isRing 25 = .ok (.iload_n 2, 1) := by decide +kernel
theorem dX9_isRing_26 : decode cX9_isRing 26 = .ok (.invokevirtual 333, 3) := by decide +kernel
theorem dX9_isRing_29 : decode cX9_isRing 29 = .ok (.if_icmp .ge 5, 3) := by decide +kernel
theorem dX9_isRing_32 : decode cX9_isRing 32 = .ok (.iconst 0, 1) := by decide +kernel
theorem dX9_isRing_33 : decode cX9_isRing 33 = .ok (.ireturn, 1) := by decide +kernel
theorem dX9_isRing_34 : decode cX9_isRing 34 = .ok (.iinc 2 1, 3) := by decide +kernel
theorem dX9_isRing_37 : decode cX9_isRing 37 = .ok (.goto (-35), 3) := by decide +kernel
theorem dX9_isRing_40 : decode cX9_isRing 40 = .ok (.iconst 1, 1) := by decide +kernel
theorem dX9_isRing_41 : decode cX9_isRing 41 = .ok (.ireturn, 1) := by decide +kernel
set_option maxRecDepth 20000 in
theorem ggX9_ring_X9_isIn : GoodIn wsX9_ring wsX9_isIn := goodIn_r _ [5] rfl rfl
set_option maxRecDepth 20000 in
theorem gX9_ring_X9_isIn : GoodIn wsX9_ring (va_wsS RX9 346 yX9_isIn wsX9_isIn) := goodIn_app (goodIn_of _ (by decide +kernel)) ggX9_ring_X9_isIn
set_option maxRecDepth 20000 in
theorem ggX9_ring_X9_layWeights : GoodIn wsX9_ring wsX9_layWeights := goodIn_r _ [9, 10, 11, 1, 12, 13, 14, 15, 16, 17, 4, 18, 19, 20, 21, 22, 23, 24, 25, 26, 27, 28, 29, 30, 31, 32, 33, 34, 35, 36, 37, 38, 39, 40, 41, 42, 43, 44, 45, 46, 47, 48, 49, 50, 51, 52, 53, 54, 55, 56, 57, 58, 59, 60, 61, 62, 63, 64, 65, 66, 67, 68, 69, 70, 71, 72, 73, 109, 110, 111, 112, 113, 114, 115, 116, 117, 118, 119, 120, 121, 122, 123, 124, 125, 126, 127, 128, 129, 130, 131, 132, 133, 134, 135, 136, 137, 138, 139, 140, 141, 142, 143, 144, 145, 146, 147, 148, 149, 150, 151, 152, 153, 154, 155, 156, 157, 158, 159, 160, 161, 162, 163, 164, 165, 166, 167, 168, 169, 170, 171, 172] rfl rfl
set_option maxRecDepth 20000 in
theorem gX9_ring_X9_layWeights : GoodIn wsX9_ring (wsV RX9 386 RX9 yX9_layWeights wsX9_layWeights) := goodIn_app (goodIn_of _ (by decide +kernel)) ggX9_ring_X9_layWeights
set_option maxRecDepth 20000 in
theorem ggX9_ring_X9_claims : GoodIn wsX9_ring wsX9_claims := goodIn_r _ [77, 78, 79, 80, 4, 81, 82, 14, 83, 84, 85, 86, 87, 88, 89, 90, 67, 91, 92, 93, 94, 2, 3, 5, 109, 110, 111, 112, 113, 114, 115, 116, 117, 118, 119, 120, 121, 122, 123, 124, 125, 126, 127, 128, 129, 130, 131, 132, 133, 134, 135, 136, 137, 138, 139, 140, 141, 142, 143, 144, 145, 146, 147, 148, 149, 150, 151, 152, 153, 154, 155, 156, 157, 158, 159, 160, 161, 162, 163, 164, 165, 166, 167, 168, 169, 170, 171, 172] rfl rfl
set_option maxRecDepth 20000 in
theorem gX9_ring_X9_claims : GoodIn wsX9_ring (wsV RX9 405 RX9 yX9_claims wsX9_claims) := goodIn_app (goodIn_of _ (by decide +kernel)) ggX9_ring_X9_claims
set_option maxRecDepth 20000 in
theorem ggX9_ring_X9_isLess : GoodIn wsX9_ring wsX9_isLess := goodIn_r _ [97, 48, 49, 4, 50] rfl rfl
set_option maxRecDepth 20000 in
theorem gX9_ring_X9_isLess : GoodIn wsX9_ring (va_wsS RX9 436 yX9_isLess wsX9_isLess) := goodIn_app (goodIn_of _ (by decide +kernel)) ggX9_ring_X9_isLess
set_option maxRecDepth 20000 in
theorem ggX9_ring_X9_isRing : GoodIn wsX9_ring wsX9_isRing := goodIn_r _ [101, 78, 79, 80, 4, 81, 82, 14, 20, 21, 22, 102, 103, 104, 105, 12, 15, 16, 17, 18, 19, 39, 40, 41, 42, 43, 51, 52, 53, 54, 55, 60, 61, 62, 63, 64, 65, 66, 67, 109, 110, 111, 112, 113, 114, 115, 116, 117, 118, 119, 120, 121, 122, 123, 124, 125, 126, 127, 128, 129, 130, 131, 132, 133, 134, 135, 136, 137, 138, 139, 140, 141, 142, 143, 144, 145, 146, 147, 148, 149, 150, 151, 152, 153, 154, 155, 156, 157, 158, 159, 160, 161, 162, 163, 164, 165, 166, 167, 168, 169, 170, 171, 172] rfl rfl
set_option maxRecDepth 20000 in
theorem gX9_ring_X9_isRing : GoodIn wsX9_ring (wsV RX9 451 RX9 yX9_isRing wsX9_isRing) := goodIn_app (goodIn_of _ (by decide +kernel)) ggX9_ring_X9_isRing
set_option maxRecDepth 20000 in
theorem ggX9_ring_X9_toldOf : GoodIn wsX9_ring wsX9_toldOf := goodIn_r _ [108, 48, 49, 4, 50] rfl rfl
set_option maxRecDepth 20000 in
theorem gX9_ring_X9_toldOf : GoodIn wsX9_ring (va_wsS RX9 445 yX9_toldOf wsX9_toldOf) := goodIn_app (goodIn_of _ (by decide +kernel)) ggX9_ring_X9_toldOf
theorem dX9_ring_0 : decode cX9_ring 0 = .ok (.iload_n 1, 1) := by decide +kernel
theorem dX9_ring_1 : decode cX9_ring 1 = .ok (.iconst 0, 1) := by decide +kernel
theorem dX9_ring_2 : decode cX9_ring 2 = .ok (.iconst 1, 1) := by decide +kernel
theorem dX9_ring_3 : decode cX9_ring 3 = .ok (.invokestatic 346, 3) := by decide +kernel
theorem dX9_ring_6 : decode cX9_ring 6 = .ok (.ifCond .ne 5, 3) := by decide +kernel
theorem dX9_ring_9 : decode cX9_ring 9 = .ok (.iconst (-1), 1) := by decide +kernel
theorem dX9_ring_10 : decode cX9_ring 10 = .ok (.ireturn, 1) := by decide +kernel
theorem dX9_ring_11 : decode cX9_ring 11 = .ok (.aload_n 0, 1) := by decide +kernel
theorem dX9_ring_12 : decode cX9_ring 12 = .ok (.aload_n 0, 1) := by decide +kernel
theorem dX9_ring_13 : decode cX9_ring 13 = .ok (.getfield 76, 3) := by decide +kernel
theorem dX9_ring_16 : decode cX9_ring 16 = .ok (.iconst 1, 1) := by decide +kernel
theorem dX9_ring_17 : decode cX9_ring 17 = .ok (.iaload, 1) := by decide +kernel
theorem dX9_ring_18 : decode cX9_ring 18 = .ok (.invokevirtual 386, 3) := by decide +kernel
theorem dX9_ring_21 : decode cX9_ring 21 = .ok (.iconst (-1), 1) := by decide +kernel
theorem dX9_ring_22 : decode cX9_ring 22 = .ok (.istore_n 2, 1) := by decide +kernel
theorem dX9_ring_23 : decode cX9_ring 23 = .ok (.iconst 1, 1) := by decide +kernel
theorem dX9_ring_24 : decode cX9_ring 24 = .ok (.istore_n 3, 1) := by decide +kernel
theorem dX9_ring_25 : decode cX9_ring 25 = .ok (.iload_n 3, 1) := by decide +kernel
theorem dX9_ring_26 : decode cX9_ring 26 = .ok (.aload_n 0, 1) := by decide +kernel
theorem dX9_ring_27 : decode cX9_ring 27 = .ok (.invokevirtual 405, 3) := by decide +kernel
theorem dX9_ring_30 : decode cX9_ring 30 = .ok (.if_icmp .gt 38, 3) := by decide +kernel
theorem dX9_ring_33 : decode cX9_ring 33 = .ok (.iload_n 3, 1) := by decide +kernel
theorem dX9_ring_34 : decode cX9_ring 34 = .ok (.aload_n 0, 1) := by decide +kernel
theorem dX9_ring_35 : decode cX9_ring 35 = .ok (.invokevirtual 405, 3) := by decide +kernel
theorem dX9_ring_38 : decode cX9_ring 38 = .ok (.iconst (-1), 1) := by decide +kernel
theorem dX9_ring_39 : decode cX9_ring 39 = .ok (.ixor, 1) := by decide +kernel
theorem dX9_ring_40 : decode cX9_ring 40 = .ok (.iand, 1) := by decide +kernel
theorem dX9_ring_41 : decode cX9_ring 41 = .ok (.ifCond .ne 21, 3) := by decide +kernel
theorem dX9_ring_44 : decode cX9_ring 44 = .ok (.iload_n 3, 1) := by decide +kernel
theorem dX9_ring_45 : decode cX9_ring 45 = .ok (.iload_n 2, 1) := by decide +kernel
theorem dX9_ring_46 : decode cX9_ring 46 = .ok (.invokestatic 436, 3) := by decide +kernel
theorem dX9_ring_49 : decode cX9_ring 49 = .ok (.ifCond .eq 13, 3) := by decide +kernel
theorem dX9_ring_52 : decode cX9_ring 52 = .ok (.aload_n 0, 1) := by decide +kernel
theorem dX9_ring_53 : decode cX9_ring 53 = .ok (.iload_n 3, 1) := by decide +kernel
theorem dX9_ring_54 : decode cX9_ring 54 = .ok (.invokevirtual 451, 3) := by decide +kernel
theorem dX9_ring_57 : decode cX9_ring 57 = .ok (.ifCond .eq 5, 3) := by decide +kernel
theorem dX9_ring_60 : decode cX9_ring 60 = .ok (.iload_n 3, 1) := by decide +kernel
theorem dX9_ring_61 : decode cX9_ring 61 = .ok (.istore_n 2, 1) := by decide +kernel
theorem dX9_ring_62 : decode cX9_ring 62 = .ok (.iinc 3 1, 3) := by decide +kernel
theorem dX9_ring_65 : decode cX9_ring 65 = .ok (.goto (-40), 3) := by decide +kernel
theorem dX9_ring_68 : decode cX9_ring 68 = .ok (.iload_n 2, 1) := by decide +kernel
theorem dX9_ring_69 : decode cX9_ring 69 = .ok (.iload_n 1, 1) := by decide +kernel
theorem dX9_ring_70 : decode cX9_ring 70 = .ok (.invokestatic 445, 3) := by decide +kernel
theorem dX9_ring_73 : decode cX9_ring 73 = .ok (.ireturn, 1) := by decide +kernel
set_option maxRecDepth 20000 in
theorem ggX9_without_X9_standBy : GoodIn wsX9_without wsX9_standBy := goodIn_r _ [6, 7, 8, 9, 10, 5, 11, 12, 13, 1, 14, 15, 16, 17, 18, 19, 20, 21, 22, 23, 24, 25, 26, 27, 28, 29, 30, 31, 32, 33, 34, 35, 36, 37, 38, 39, 40, 41, 42, 43, 44, 45, 46, 47, 48, 49, 50, 51, 52, 53, 54, 55, 56, 57, 58, 59, 60, 61, 62, 63, 64, 65, 66, 67, 68, 69, 70, 71, 72, 73, 74, 75, 76, 77, 78, 79, 80, 81, 82, 83, 84, 85, 86, 87, 88, 89, 90, 91, 92, 93, 94, 95, 96, 97, 98, 99, 100, 101, 102, 103, 108, 109, 110, 111, 112, 113, 114, 115, 116, 117, 118, 119, 120, 121, 122, 123, 124, 125, 126, 127, 128, 129, 130, 131, 132, 133, 134, 135, 136, 137, 138, 139, 140, 141, 142, 143, 144, 145, 146, 147, 148, 149, 150, 151, 152, 153, 154, 155, 156, 157, 158, 159, 160, 161, 162, 163, 164, 165, 166, 167, 168, 169, 170, 171] rfl rfl
set_option maxRecDepth 20000 in
theorem gX9_without_X9_standBy : GoodIn wsX9_without (wsV RX9 396 RX9 yX9_standBy wsX9_standBy) := goodIn_app (goodIn_of _ (by decide +kernel)) ggX9_without_X9_standBy
set_option maxRecDepth 20000 in
theorem ggX9_without_X9_claims : GoodIn wsX9_without wsX9_claims := goodIn_r _ [107, 80, 81, 82, 5, 83, 84, 16, 76, 77, 78, 79, 85, 86, 87, 88, 69, 89, 90, 91, 92, 93, 94, 95, 108, 109, 110, 111, 112, 113, 114, 115, 116, 117, 118, 119, 120, 121, 122, 123, 124, 125, 126, 127, 128, 129, 130, 131, 132, 133, 134, 135, 136, 137, 138, 139, 140, 141, 142, 143, 144, 145, 146, 147, 148, 149, 150, 151, 152, 153, 154, 155, 156, 157, 158, 159, 160, 161, 162, 163, 164, 165, 166, 167, 168, 169, 170, 171] rfl rfl
set_option maxRecDepth 20000 in
theorem gX9_without_X9_claims : GoodIn wsX9_without (wsV RX9 405 RX9 yX9_claims wsX9_claims) := goodIn_app (goodIn_of _ (by decide +kernel)) ggX9_without_X9_claims
theorem dX9_without_0 : decode cX9_without 0 = .ok (.aload_n 0, 1) := by decide +kernel
theorem dX9_without_1 : decode cX9_without 1 = .ok (.aload_n 0, 1) := by decide +kernel
theorem dX9_without_2 : decode cX9_without 2 = .ok (.getfield 76, 3) := by decide +kernel
theorem dX9_without_5 : decode cX9_without 5 = .ok (.iconst 0, 1) := by decide +kernel
theorem dX9_without_6 : decode cX9_without 6 = .ok (.iaload, 1) := by decide +kernel
theorem dX9_without_7 : decode cX9_without 7 = .ok (.iconst 1, 1) := by decide +kernel
theorem dX9_without_8 : decode cX9_without 8 = .ok (.iload_n 1, 1) := by decide +kernel
theorem dX9_without_9 : decode cX9_without 9 = .ok (.ishl, 1) := by decide +kernel
theorem dX9_without_10 : decode cX9_without 10 = .ok (.ior, 1) := by decide +kernel
theorem dX9_without_11 : decode cX9_without 11 = .ok (.aload_n 0, 1) := by decide +kernel
theorem dX9_without_12 : decode cX9_without 12 = .ok (.getfield 76, 3) := by decide +kernel
theorem dX9_without_15 : decode cX9_without 15 = .ok (.iconst 1, 1) := by decide +kernel
theorem dX9_without_16 : decode cX9_without 16 = .ok (.iaload, 1) := by decide +kernel
theorem dX9_without_17 : decode cX9_without 17 = .ok (.invokevirtual 396, 3) := by decide +kernel
theorem dX9_without_20 : decode cX9_without 20 = .ok (.aload_n 0, 1) := by decide +kernel
theorem dX9_without_21 : decode cX9_without 21 = .ok (.invokevirtual 405, 3) := by decide +kernel
theorem dX9_without_24 : decode cX9_without 24 = .ok (.iand, 1) := by decide +kernel
theorem dX9_without_25 : decode cX9_without 25 = .ok (.ireturn, 1) := by decide +kernel
theorem dX9_afterMove_0 : decode cX9_afterMove 0 = .ok (.iload_n 2, 1) := by decide +kernel
theorem dX9_afterMove_1 : decode cX9_afterMove 1 = .ok (.ifCond .ge 7, 3) := by decide +kernel
theorem dX9_afterMove_4 : decode cX9_afterMove 4 = .ok (.iload_n 1, 1) := by decide +kernel
theorem dX9_afterMove_5 : decode cX9_afterMove 5 = .ok (.goto 8, 3) := by decide +kernel
theorem dX9_afterMove_8 : decode cX9_afterMove 8 = .ok (.iload_n 1, 1) := by decide +kernel
theorem dX9_afterMove_9 : decode cX9_afterMove 9 = .ok (.iconst 1, 1) := by decide +kernel
theorem dX9_afterMove_10 : decode cX9_afterMove 10 = .ok (.iload_n 2, 1) := by decide +kernel
theorem dX9_afterMove_11 : decode cX9_afterMove 11 = .ok (.ishl, 1) := by decide +kernel
theorem dX9_afterMove_12 : decode cX9_afterMove 12 = .ok (.ixor, 1) := by decide +kernel
theorem dX9_afterMove_13 : decode cX9_afterMove 13 = .ok (.ireturn, 1) := by decide +kernel
set_option maxRecDepth 20000 in
theorem ggX9_mootLast_X9_threads : GoodIn wsX9_mootLast wsX9_threads := goodIn_r _ [6, 7, 8, 117, 118, 119, 120, 121, 122, 123, 124, 125, 126, 127, 128, 129, 130, 131, 132, 133, 134, 135, 136, 137, 138, 139, 140, 141, 142, 143, 144, 145, 146, 147, 148, 149, 150, 151, 152, 153, 154, 155, 156, 157, 158, 159, 160, 161, 162, 163, 164, 165, 166, 167, 168, 169, 170, 171, 172, 173, 174, 175, 176, 177, 178, 179, 180] rfl rfl
set_option maxRecDepth 20000 in
theorem gX9_mootLast_X9_threads : GoodIn wsX9_mootLast (wsV RX9 350 RX9 yX9_threads wsX9_threads) := goodIn_app (goodIn_of _ (by decide +kernel)) ggX9_mootLast_X9_threads
set_option maxRecDepth 20000 in
theorem ggX9_mootLast_X9_afterMove : GoodIn wsX9_mootLast wsX9_afterMove := goodIn_r _ [12] rfl rfl
set_option maxRecDepth 20000 in
theorem gX9_mootLast_X9_afterMove : GoodIn wsX9_mootLast (wsV RX9 461 RX9 yX9_afterMove wsX9_afterMove) := goodIn_app (goodIn_of _ (by decide +kernel)) ggX9_mootLast_X9_afterMove
set_option maxRecDepth 20000 in
theorem ggX9_mootLast_X9_doesStand : GoodIn wsX9_mootLast wsX9_doesStand := goodIn_r _ [16, 17, 18, 19, 5, 20, 21, 22, 23, 24, 25, 26, 27, 28, 29, 30, 31, 32, 33, 34, 8, 2, 3, 4, 6, 7, 35, 36, 37, 38, 39, 40, 41, 42, 43, 44, 45, 46, 47, 48, 49, 50, 51, 52, 53, 54, 55, 56, 57, 58, 59, 60, 61, 62, 63, 64, 65, 66, 67, 68, 69, 70, 71, 72, 73, 74, 75, 76, 77, 78, 79, 80, 81, 82, 83, 84, 85, 86, 87, 88, 89, 90, 91, 92, 93, 94, 95, 96, 97, 98, 99, 100, 101, 102, 103, 104, 105, 106, 107, 108, 109, 110, 111, 112, 113, 114, 115, 116, 117, 118, 119, 120, 121, 122, 123, 124, 125, 126, 127, 128, 129, 130, 131, 132, 133, 134, 135, 136, 137, 138, 139, 140, 141, 142, 143, 144, 145, 146, 147, 148, 149, 150, 151, 152, 153, 154, 155, 156, 157, 158, 159, 160, 161, 162, 163, 164, 165, 166, 167, 168, 169, 170, 171, 172, 173, 174, 175, 176, 177, 178, 179, 180] rfl rfl
set_option maxRecDepth 20000 in
theorem gX9_mootLast_X9_doesStand : GoodIn wsX9_mootLast (wsV RX9 439 RX9 yX9_doesStand wsX9_doesStand) := goodIn_app (goodIn_of _ (by decide +kernel)) ggX9_mootLast_X9_doesStand
theorem dX9_mootLast_0 : decode cX9_mootLast 0 = .ok (.iload_n 3, 1) := by decide +kernel
theorem dX9_mootLast_1 : decode cX9_mootLast 1 = .ok (.ifCond .eq 7, 3) := by decide +kernel
theorem dX9_mootLast_4 : decode cX9_mootLast 4 = .ok (.iconst 2, 1) := by decide +kernel
theorem dX9_mootLast_5 : decode cX9_mootLast 5 = .ok (.goto 4, 3) := by decide +kernel
theorem dX9_mootLast_8 : decode cX9_mootLast 8 = .ok (.iconst (-1), 1) := by decide +kernel
theorem dX9_mootLast_9 : decode cX9_mootLast 9 = .ok (.istore 4, 2) := by decide +kernel
theorem dX9_mootLast_11 : decode cX9_mootLast 11 = .ok (.iconst (-1), 1) := by decide +kernel
theorem dX9_mootLast_12 : decode cX9_mootLast 12 = .ok (.istore 5, 2) := by decide +kernel
theorem dX9_mootLast_14 : decode cX9_mootLast 14 = .ok (.iload 5, 2) := by decide +kernel
theorem dX9_mootLast_16 : decode cX9_mootLast 16 = .ok (.aload_n 0, 1) := by decide +kernel
theorem dX9_mootLast_17 : decode cX9_mootLast 17 = .ok (.invokevirtual 350, 3) := by decide +kernel
theorem dX9_mootLast_20 : decode cX9_mootLast 20 = .ok (.if_icmp .ge 65, 3) := by decide +kernel
theorem dX9_mootLast_23 : decode cX9_mootLast 23 = .ok (.aload_n 0, 1) := by decide +kernel
theorem dX9_mootLast_24 : decode cX9_mootLast 24 = .ok (.iload_n 1, 1) := by decide +kernel
theorem dX9_mootLast_25 : decode cX9_mootLast 25 = .ok (.aload_n 0, 1) := by decide +kernel
theorem dX9_mootLast_26 : decode cX9_mootLast 26 = .ok (.iload_n 2, 1) := by decide +kernel
theorem dX9_mootLast_27 : decode cX9_mootLast 27 = .ok (.iload 5, 2) := by decide +kernel
theorem dX9_mootLast_29 : decode cX9_mootLast 29 = .ok (.invokevirtual 461, 3) := by decide +kernel
theorem dX9_mootLast_32 : decode cX9_mootLast 32 = .ok (.invokevirtual 439, 3) := by decide +kernel
theorem dX9_mootLast_35 : decode cX9_mootLast 35 = .ok (.ifCond .eq 7, 3) := by decide +kernel
theorem dX9_mootLast_38 : decode cX9_mootLast 38 = .ok (.iconst 1, 1) := by decide +kernel
theorem dX9_mootLast_39 : decode cX9_mootLast 39 = .ok (.goto 4, 3) := by decide +kernel
theorem dX9_mootLast_42 : decode cX9_mootLast 42 = .ok (.iconst 0, 1) := by decide +kernel
theorem dX9_mootLast_43 : decode cX9_mootLast 43 = .ok (.istore 6, 2) := by decide +kernel
theorem dX9_mootLast_45 : decode cX9_mootLast 45 = .ok (.iload_n 3, 1) := by decide +kernel
theorem dX9_mootLast_46 : decode cX9_mootLast 46 = .ok (.ifCond .eq 13, 3) := by decide +kernel
theorem dX9_mootLast_49 : decode cX9_mootLast 49 = .ok (.iload 6, 2) := by decide +kernel
theorem dX9_mootLast_51 : decode cX9_mootLast 51 = .ok (.iload 4, 2) := by decide +kernel
theorem dX9_mootLast_53 : decode cX9_mootLast 53 = .ok (.if_icmp .lt 16, 3) := by decide +kernel
theorem dX9_mootLast_56 : decode cX9_mootLast 56 = .ok (.goto 23, 3) := by decide +kernel
theorem dX9_mootLast_59 : decode cX9_mootLast 59 = .ok (.iload 6, 2) := by decide +kernel
theorem dX9_mootLast_61 : decode cX9_mootLast 61 = .ok (.iload 4, 2) := by decide +kernel
theorem dX9_mootLast_63 : decode cX9_mootLast 63 = .ok (.if_icmp .gt 6, 3) := by decide +kernel
theorem dX9_mootLast_66 : decode cX9_mootLast 66 = .ok (.goto 13, 3) := by decide +kernel
theorem dX9_mootLast_69 : decode cX9_mootLast 69 = .ok (.iload 6, 2) := by decide +kernel
theorem dX9_mootLast_71 : decode cX9_mootLast 71 = .ok (.istore 4, 2) := by decide +kernel
theorem dX9_mootLast_73 : decode cX9_mootLast 73 = .ok (.aload_n 0, 1) := by decide +kernel
theorem dX9_mootLast_74 : decode cX9_mootLast 74 = .ok (.iload 5, 2) := by decide +kernel
theorem dX9_mootLast_76 : decode cX9_mootLast 76 = .ok (.putfield 464, 3) := by decide +kernel
theorem dX9_mootLast_79 : decode cX9_mootLast 79 = .ok (.iinc 5 1, 3) := by decide +kernel
theorem dX9_mootLast_82 : decode cX9_mootLast 82 = .ok (.goto (-68), 3) := by decide +kernel
theorem dX9_mootLast_85 : decode cX9_mootLast 85 = .ok (.iload 4, 2) := by decide +kernel
theorem dX9_mootLast_87 : decode cX9_mootLast 87 = .ok (.ireturn, 1) := by decide +kernel
set_option maxRecDepth 20000 in
theorem ggX9_mootTwo_X9_threads : GoodIn wsX9_mootTwo wsX9_threads := goodIn_r _ [6, 7, 8, 121, 122, 123, 124, 125, 126, 127, 128, 129, 130, 131, 132, 133, 134, 135, 136, 137, 138, 139, 140, 141, 142, 143, 144, 145, 146, 147, 148, 149, 150, 151, 152, 153, 154, 155, 156, 157, 158, 159, 160, 161, 162, 163, 164, 165, 166, 167, 168, 169, 170, 171, 172, 173, 174, 175, 176, 177, 178, 179, 180, 181, 182, 183, 184] rfl rfl
set_option maxRecDepth 20000 in
theorem gX9_mootTwo_X9_threads : GoodIn wsX9_mootTwo (wsV RX9 350 RX9 yX9_threads wsX9_threads) := goodIn_app (goodIn_of _ (by decide +kernel)) ggX9_mootTwo_X9_threads
set_option maxRecDepth 20000 in
theorem ggX9_mootTwo_X9_afterMove : GoodIn wsX9_mootTwo wsX9_afterMove := goodIn_r _ [12] rfl rfl
set_option maxRecDepth 20000 in
theorem gX9_mootTwo_X9_afterMove : GoodIn wsX9_mootTwo (wsV RX9 461 RX9 yX9_afterMove wsX9_afterMove) := goodIn_app (goodIn_of _ (by decide +kernel)) ggX9_mootTwo_X9_afterMove
set_option maxRecDepth 20000 in
theorem ggX9_mootTwo_X9_mootLast : GoodIn wsX9_mootTwo wsX9_mootLast := goodIn_r _ [16, 1, 2, 3, 4, 5, 6, 7, 8, 9, 10, 11, 12, 17, 18, 19, 20, 21, 22, 23, 24, 25, 26, 27, 28, 29, 30, 31, 32, 33, 34, 35, 36, 37, 38, 39, 40, 41, 42, 43, 44, 45, 46, 47, 48, 49, 50, 51, 52, 53, 54, 55, 56, 57, 58, 59, 60, 61, 62, 63, 64, 65, 66, 67, 68, 69, 70, 71, 72, 73, 74, 75, 76, 77, 78, 79, 80, 81, 82, 83, 84, 85, 86, 87, 88, 89, 90, 91, 92, 93, 94, 95, 96, 97, 98, 99, 100, 101, 102, 103, 104, 105, 106, 107, 108, 109, 110, 111, 112, 113, 114, 115, 116, 117, 118, 119, 120, 121, 122, 123, 124, 125, 126, 127, 128, 129, 130, 131, 132, 133, 134, 135, 136, 137, 138, 139, 140, 141, 142, 143, 144, 145, 146, 147, 148, 149, 150, 151, 152, 153, 154, 155, 156, 157, 158, 159, 160, 161, 162, 163, 164, 165, 166, 167, 168, 169, 170, 171, 172, 173, 174, 175, 176, 177, 178, 179, 180, 181, 182, 183, 184] rfl rfl
set_option maxRecDepth 20000 in
theorem gX9_mootTwo_X9_mootLast : GoodIn wsX9_mootTwo (wsV RX9 467 RX9 yX9_mootLast wsX9_mootLast) := goodIn_app (goodIn_of _ (by decide +kernel)) ggX9_mootTwo_X9_mootLast
theorem dX9_mootTwo_0 : decode cX9_mootTwo 0 = .ok (.iload_n 3, 1) := by decide +kernel
theorem dX9_mootTwo_1 : decode cX9_mootTwo 1 = .ok (.ifCond .eq 7, 3) := by decide +kernel
theorem dX9_mootTwo_4 : decode cX9_mootTwo 4 = .ok (.iconst 2, 1) := by decide +kernel
theorem dX9_mootTwo_5 : decode cX9_mootTwo 5 = .ok (.goto 4, 3) := by decide +kernel
theorem dX9_mootTwo_8 : decode cX9_mootTwo 8 = .ok (.iconst (-1), 1) := by decide +kernel
theorem dX9_mootTwo_9 : decode cX9_mootTwo 9 = .ok (.istore 4, 2) := by decide +kernel
theorem dX9_mootTwo_11 : decode cX9_mootTwo 11 = .ok (.iconst (-1), 1) := by decide +kernel
theorem dX9_mootTwo_12 : decode cX9_mootTwo 12 = .ok (.istore 5, 2) := by decide +kernel
theorem dX9_mootTwo_14 : decode cX9_mootTwo 14 = .ok (.iconst (-1), 1) := by decide +kernel
theorem dX9_mootTwo_15 : decode cX9_mootTwo 15 = .ok (.istore 6, 2) := by decide +kernel
theorem dX9_mootTwo_17 : decode cX9_mootTwo 17 = .ok (.iload 6, 2) := by decide +kernel
theorem dX9_mootTwo_19 : decode cX9_mootTwo 19 = .ok (.aload_n 0, 1) := by decide +kernel
theorem dX9_mootTwo_20 : decode cX9_mootTwo 20 = .ok (.invokevirtual 350, 3) := by decide +kernel
theorem dX9_mootTwo_23 : decode cX9_mootTwo 23 = .ok (.if_icmp .ge 64, 3) := by decide +kernel
theorem dX9_mootTwo_26 : decode cX9_mootTwo 26 = .ok (.aload_n 0, 1) := by decide +kernel
theorem dX9_mootTwo_27 : decode cX9_mootTwo 27 = .ok (.iload_n 1, 1) := by decide +kernel
theorem dX9_mootTwo_28 : decode cX9_mootTwo 28 = .ok (.aload_n 0, 1) := by decide +kernel
theorem dX9_mootTwo_29 : decode cX9_mootTwo 29 = .ok (.iload_n 2, 1) := by decide +kernel
theorem dX9_mootTwo_30 : decode cX9_mootTwo 30 = .ok (.iload 6, 2) := by decide +kernel
theorem dX9_mootTwo_32 : decode cX9_mootTwo 32 = .ok (.invokevirtual 461, 3) := by decide +kernel
theorem dX9_mootTwo_35 : decode cX9_mootTwo 35 = .ok (.iload_n 3, 1) := by decide +kernel
theorem dX9_mootTwo_36 : decode cX9_mootTwo 36 = .ok (.ifCond .ne 7, 3) := by decide +kernel
theorem dX9_mootTwo_39 : decode cX9_mootTwo 39 = .ok (.iconst 1, 1) := by decide +kernel
theorem dX9_mootTwo_40 : decode cX9_mootTwo 40 = .ok (.goto 4, 3) := by decide +kernel
theorem dX9_mootTwo_43 : decode cX9_mootTwo 43 = .ok (.iconst 0, 1) := by decide +kernel
theorem dX9_mootTwo_44 : decode cX9_mootTwo 44 = .ok (.invokevirtual 467, 3) := by decide +kernel
theorem dX9_mootTwo_47 : decode cX9_mootTwo 47 = .ok (.istore 7, 2) := by decide +kernel
theorem dX9_mootTwo_49 : decode cX9_mootTwo 49 = .ok (.iload_n 3, 1) := by decide +kernel
theorem dX9_mootTwo_50 : decode cX9_mootTwo 50 = .ok (.ifCond .eq 13, 3) := by decide +kernel
theorem dX9_mootTwo_53 : decode cX9_mootTwo 53 = .ok (.iload 7, 2) := by decide +kernel
theorem dX9_mootTwo_55 : decode cX9_mootTwo 55 = .ok (.iload 4, 2) := by decide +kernel
theorem dX9_mootTwo_57 : decode cX9_mootTwo 57 = .ok (.if_icmp .lt 16, 3) := by decide +kernel
theorem dX9_mootTwo_60 : decode cX9_mootTwo 60 = .ok (.goto 21, 3) := by decide +kernel
theorem dX9_mootTwo_63 : decode cX9_mootTwo 63 = .ok (.iload 7, 2) := by decide +kernel
theorem dX9_mootTwo_65 : decode cX9_mootTwo 65 = .ok (.iload 4, 2) := by decide +kernel
theorem dX9_mootTwo_67 : decode cX9_mootTwo 67 = .ok (.if_icmp .gt 6, 3) := by decide +kernel
theorem dX9_mootTwo_70 : decode cX9_mootTwo 70 = .ok (.goto 11, 3) := by decide +kernel
theorem dX9_mootTwo_73 : decode cX9_mootTwo 73 = .ok (.iload 7, 2) := by decide +kernel
theorem dX9_mootTwo_75 : decode cX9_mootTwo 75 = .ok (.istore 4, 2) := by decide +kernel
theorem dX9_mootTwo_77 : decode cX9_mootTwo 77 = .ok (.iload 6, 2) := by decide +kernel
theorem dX9_mootTwo_79 : decode cX9_mootTwo 79 = .ok (.istore 5, 2) := by decide +kernel
theorem dX9_mootTwo_81 : decode cX9_mootTwo 81 = .ok (.iinc 6 1, 3) := by decide +kernel
theorem dX9_mootTwo_84 : decode cX9_mootTwo 84 = .ok (.goto (-67), 3) := by decide +kernel
theorem dX9_mootTwo_87 : decode cX9_mootTwo 87 = .ok (.aload_n 0, 1) := by decide +kernel
theorem dX9_mootTwo_88 : decode cX9_mootTwo 88 = .ok (.iload 5, 2) := by decide +kernel
theorem dX9_mootTwo_90 : decode cX9_mootTwo 90 = .ok (.putfield 464, 3) := by decide +kernel
theorem dX9_mootTwo_93 : decode cX9_mootTwo 93 = .ok (.iload 4, 2) := by decide +kernel
theorem dX9_mootTwo_95 : decode cX9_mootTwo 95 = .ok (.ireturn, 1) := by decide +kernel
set_option maxRecDepth 20000 in
theorem ggX9_mootThree_X9_threads : GoodIn wsX9_mootThree wsX9_threads := goodIn_r _ [6, 7, 8, 125, 126, 127, 128, 129, 130, 131, 132, 133, 134, 135, 136, 137, 138, 139, 140, 141, 142, 143, 144, 145, 146, 147, 148, 149, 150, 151, 152, 153, 154, 155, 156, 157, 158, 159, 160, 161, 162, 163, 164, 165, 166, 167, 168, 169, 170, 171, 172, 173, 174, 175, 176, 177, 178, 179, 180, 181, 182, 183, 184, 185, 186, 187, 188] rfl rfl
set_option maxRecDepth 20000 in
theorem gX9_mootThree_X9_threads : GoodIn wsX9_mootThree (wsV RX9 350 RX9 yX9_threads wsX9_threads) := goodIn_app (goodIn_of _ (by decide +kernel)) ggX9_mootThree_X9_threads
set_option maxRecDepth 20000 in
theorem ggX9_mootThree_X9_afterMove : GoodIn wsX9_mootThree wsX9_afterMove := goodIn_r _ [12] rfl rfl
set_option maxRecDepth 20000 in
theorem gX9_mootThree_X9_afterMove : GoodIn wsX9_mootThree (wsV RX9 461 RX9 yX9_afterMove wsX9_afterMove) := goodIn_app (goodIn_of _ (by decide +kernel)) ggX9_mootThree_X9_afterMove
set_option maxRecDepth 20000 in
theorem ggX9_mootThree_X9_mootTwo : GoodIn wsX9_mootThree wsX9_mootTwo := goodIn_r _ [16, 1, 2, 3, 4, 5, 6, 7, 8, 9, 10, 11, 12, 17, 18, 19, 20, 21, 22, 23, 24, 25, 26, 27, 28, 29, 30, 31, 32, 33, 34, 35, 36, 37, 38, 39, 40, 41, 42, 43, 44, 45, 46, 47, 48, 49, 50, 51, 52, 53, 54, 55, 56, 57, 58, 59, 60, 61, 62, 63, 64, 65, 66, 67, 68, 69, 70, 71, 72, 73, 74, 75, 76, 77, 78, 79, 80, 81, 82, 83, 84, 85, 86, 87, 88, 89, 90, 91, 92, 93, 94, 95, 96, 97, 98, 99, 100, 101, 102, 103, 104, 105, 106, 107, 108, 109, 110, 111, 112, 113, 114, 115, 116, 117, 118, 119, 120, 121, 122, 123, 124, 125, 126, 127, 128, 129, 130, 131, 132, 133, 134, 135, 136, 137, 138, 139, 140, 141, 142, 143, 144, 145, 146, 147, 148, 149, 150, 151, 152, 153, 154, 155, 156, 157, 158, 159, 160, 161, 162, 163, 164, 165, 166, 167, 168, 169, 170, 171, 172, 173, 174, 175, 176, 177, 178, 179, 180, 181, 182, 183, 184, 185, 186, 187, 188] rfl rfl
set_option maxRecDepth 20000 in
theorem gX9_mootThree_X9_mootTwo : GoodIn wsX9_mootThree (wsV RX9 470 RX9 yX9_mootTwo wsX9_mootTwo) := goodIn_app (goodIn_of _ (by decide +kernel)) ggX9_mootThree_X9_mootTwo
theorem dX9_mootThree_0 : decode cX9_mootThree 0 = .ok (.iconst 2, 1) := by decide +kernel
theorem dX9_mootThree_1 : decode cX9_mootThree 1 = .ok (.istore_n 3, 1) := by decide +kernel
theorem dX9_mootThree_2 : decode cX9_mootThree 2 = .ok (.iconst (-1), 1) := by decide +kernel
theorem dX9_mootThree_3 : decode cX9_mootThree 3 = .ok (.istore 4, 2) := by decide +kernel
theorem dX9_mootThree_5 : decode cX9_mootThree 5 = .ok (.iconst (-1), 1) := by decide +kernel
theorem dX9_mootThree_6 : decode cX9_mootThree 6 = .ok (.istore 5, 2) := by decide +kernel
theorem dX9_mootThree_8 : decode cX9_mootThree 8 = .ok (.iload 5, 2) := by decide +kernel
theorem dX9_mootThree_10 : decode cX9_mootThree 10 = .ok (.aload_n 0, 1) := by decide +kernel
theorem dX9_mootThree_11 : decode cX9_mootThree 11 = .ok (.invokevirtual 350, 3) := by decide +kernel
theorem dX9_mootThree_14 : decode cX9_mootThree 14 = .ok (.if_icmp .ge 40, 3) := by decide +kernel
theorem dX9_mootThree_17 : decode cX9_mootThree 17 = .ok (.aload_n 0, 1) := by decide +kernel
theorem dX9_mootThree_18 : decode cX9_mootThree 18 = .ok (.iload_n 1, 1) := by decide +kernel
theorem dX9_mootThree_19 : decode cX9_mootThree 19 = .ok (.aload_n 0, 1) := by decide +kernel
theorem dX9_mootThree_20 : decode cX9_mootThree 20 = .ok (.iload_n 2, 1) := by decide +kernel
theorem dX9_mootThree_21 : decode cX9_mootThree 21 = .ok (.iload 5, 2) := by decide +kernel
theorem dX9_mootThree_23 : decode cX9_mootThree 23 = .ok (.invokevirtual 461, 3) := by decide +kernel
theorem dX9_mootThree_26 : decode cX9_mootThree 26 = .ok (.iconst 0, 1) := by decide +kernel
theorem dX9_mootThree_27 : decode cX9_mootThree 27 = .ok (.invokevirtual 470, 3) := by decide +kernel
theorem dX9_mootThree_30 : decode cX9_mootThree 30 = .ok (.istore 6, 2) := by decide +kernel
theorem dX9_mootThree_32 : decode cX9_mootThree 32 = .ok (.iload 6, 2) := by decide +kernel
theorem dX9_mootThree_34 : decode cX9_mootThree 34 = .ok (.iload_n 3, 1) := by decide +kernel
theorem dX9_mootThree_35 : decode cX9_mootThree 35 = .ok (.if_icmp .lt 6, 3) := by decide +kernel
theorem dX9_mootThree_38 : decode cX9_mootThree 38 = .ok (.goto 10, 3) := by decide +kernel
theorem dX9_mootThree_41 : decode cX9_mootThree 41 = .ok (.iload 6, 2) := by decide +kernel
theorem dX9_mootThree_43 : decode cX9_mootThree 43 = .ok (.istore_n 3, 1) := by decide +kernel
theorem dX9_mootThree_44 : decode cX9_mootThree 44 = .ok (.iload 5, 2) := by decide +kernel
theorem dX9_mootThree_46 : decode cX9_mootThree 46 = .ok (.istore 4, 2) := by decide +kernel
theorem dX9_mootThree_48 : decode cX9_mootThree 48 = .ok (.iinc 5 1, 3) := by decide +kernel
theorem dX9_mootThree_51 : decode cX9_mootThree 51 = .ok (.goto (-43), 3) := by decide +kernel
theorem dX9_mootThree_54 : decode cX9_mootThree 54 = .ok (.aload_n 0, 1) := by decide +kernel
theorem dX9_mootThree_55 : decode cX9_mootThree 55 = .ok (.iload 4, 2) := by decide +kernel
theorem dX9_mootThree_57 : decode cX9_mootThree 57 = .ok (.putfield 464, 3) := by decide +kernel
theorem dX9_mootThree_60 : decode cX9_mootThree 60 = .ok (.iload_n 3, 1) := by decide +kernel
theorem dX9_mootThree_61 : decode cX9_mootThree 61 = .ok (.ireturn, 1) := by decide +kernel
set_option maxRecDepth 20000 in
theorem ggX9_moot_X9_isClaim : GoodIn wsX9_moot wsX9_isClaim := goodIn_r _ [7, 8, 9, 10, 11, 12, 6, 13, 14, 15, 16, 17, 18, 19, 20, 21, 129, 130, 131, 132, 133, 134, 135, 136, 137, 138, 139, 140, 141, 142, 143, 144, 145, 146, 147, 148, 149, 150, 151, 152, 153, 154, 155, 156, 157, 158, 159, 160, 161, 162, 163, 164, 165, 166, 167, 168, 169, 170, 171, 172, 173, 174, 175, 176, 177, 178, 179, 180, 181, 182, 183, 184, 185, 186, 187, 188, 189, 190, 191, 192] rfl rfl
set_option maxRecDepth 20000 in
theorem gX9_moot_X9_isClaim : GoodIn wsX9_moot (wsV RX9 390 RX9 yX9_isClaim wsX9_isClaim) := goodIn_app (goodIn_of _ (by decide +kernel)) ggX9_moot_X9_isClaim
set_option maxRecDepth 20000 in
theorem ggX9_moot_X9_isIn : GoodIn wsX9_moot wsX9_isIn := goodIn_r _ [21] rfl rfl
set_option maxRecDepth 20000 in
theorem gX9_moot_X9_isIn : GoodIn wsX9_moot (va_wsS RX9 346 yX9_isIn wsX9_isIn) := goodIn_app (goodIn_of _ (by decide +kernel)) ggX9_moot_X9_isIn
set_option maxRecDepth 20000 in
theorem ggX9_moot_X9_mootLast : GoodIn wsX9_moot wsX9_mootLast := goodIn_r _ [25, 2, 26, 27, 28, 6, 29, 30, 9, 31, 32, 33, 34, 35, 36, 37, 38, 39, 40, 41, 42, 1, 43, 44, 45, 46, 47, 48, 49, 50, 51, 52, 53, 54, 55, 56, 57, 58, 59, 60, 61, 62, 63, 64, 65, 66, 67, 68, 69, 70, 71, 72, 73, 74, 75, 76, 77, 78, 79, 80, 81, 82, 83, 84, 85, 86, 87, 88, 89, 90, 91, 92, 93, 94, 95, 96, 97, 98, 99, 100, 101, 102, 8, 103, 104, 105, 106, 107, 108, 109, 110, 111, 112, 14, 15, 16, 17, 18, 113, 114, 115, 116, 10, 11, 12, 13, 19, 20, 21, 3, 4, 5, 7, 117, 118, 119, 120, 129, 130, 131, 132, 133, 134, 135, 136, 137, 138, 139, 140, 141, 142, 143, 144, 145, 146, 147, 148, 149, 150, 151, 152, 153, 154, 155, 156, 157, 158, 159, 160, 161, 162, 163, 164, 165, 166, 167, 168, 169, 170, 171, 172, 173, 174, 175, 176, 177, 178, 179, 180, 181, 182, 183, 184, 185, 186, 187, 188, 189, 190, 191, 192] rfl rfl
set_option maxRecDepth 20000 in
theorem gX9_moot_X9_mootLast : GoodIn wsX9_moot (wsV RX9 467 RX9 yX9_mootLast wsX9_mootLast) := goodIn_app (goodIn_of _ (by decide +kernel)) ggX9_moot_X9_mootLast
set_option maxRecDepth 20000 in
theorem ggX9_moot_X9_mootTwo : GoodIn wsX9_moot wsX9_mootTwo := goodIn_r _ [124, 2, 26, 27, 28, 6, 29, 30, 9, 31, 32, 33, 34, 22, 23, 24, 25, 35, 36, 37, 38, 39, 40, 41, 42, 1, 43, 44, 45, 46, 47, 48, 49, 50, 51, 52, 53, 54, 55, 56, 57, 58, 59, 60, 61, 62, 63, 64, 65, 66, 67, 68, 69, 70, 71, 72, 73, 74, 75, 76, 77, 78, 79, 80, 81, 82, 83, 84, 85, 86, 87, 88, 89, 90, 91, 92, 93, 94, 95, 96, 97, 98, 99, 100, 101, 102, 8, 103, 104, 105, 106, 107, 108, 109, 110, 111, 112, 14, 15, 16, 17, 18, 113, 114, 115, 116, 10, 11, 12, 13, 19, 20, 21, 3, 4, 5, 7, 117, 118, 119, 120, 129, 130, 131, 132, 133, 134, 135, 136, 137, 138, 139, 140, 141, 142, 143, 144, 145, 146, 147, 148, 149, 150, 151, 152, 153, 154, 155, 156, 157, 158, 159, 160, 161, 162, 163, 164, 165, 166, 167, 168, 169, 170, 171, 172, 173, 174, 175, 176, 177, 178, 179, 180, 181, 182, 183, 184, 185, 186, 187, 188, 189, 190, 191, 192] rfl rfl
set_option maxRecDepth 20000 in
theorem gX9_moot_X9_mootTwo : GoodIn wsX9_moot (wsV RX9 470 RX9 yX9_mootTwo wsX9_mootTwo) := goodIn_app (goodIn_of _ (by decide +kernel)) ggX9_moot_X9_mootTwo
set_option maxRecDepth 20000 in
theorem ggX9_moot_X9_mootThree : GoodIn wsX9_moot wsX9_mootThree := goodIn_r _ [128, 2, 26, 27, 28, 6, 29, 30, 9, 31, 32, 33, 34, 121, 122, 123, 124, 22, 23, 24, 25, 35, 36, 37, 38, 39, 40, 41, 42, 1, 43, 44, 45, 46, 47, 48, 49, 50, 51, 52, 53, 54, 55, 56, 57, 58, 59, 60, 61, 62, 63, 64, 65, 66, 67, 68, 69, 70, 71, 72, 73, 74, 75, 76, 77, 78, 79, 80, 81, 82, 83, 84, 85, 86, 87, 88, 89, 90, 91, 92, 93, 94, 95, 96, 97, 98, 99, 100, 101, 102, 8, 103, 104, 105, 106, 107, 108, 109, 110, 111, 112, 14, 15, 16, 17, 18, 113, 114, 115, 116, 10, 11, 12, 13, 19, 20, 21, 3, 4, 5, 7, 117, 118, 119, 120, 129, 130, 131, 132, 133, 134, 135, 136, 137, 138, 139, 140, 141, 142, 143, 144, 145, 146, 147, 148, 149, 150, 151, 152, 153, 154, 155, 156, 157, 158, 159, 160, 161, 162, 163, 164, 165, 166, 167, 168, 169, 170, 171, 172, 173, 174, 175, 176, 177, 178, 179, 180, 181, 182, 183, 184, 185, 186, 187, 188, 189, 190, 191, 192] rfl rfl
set_option maxRecDepth 20000 in
theorem gX9_moot_X9_mootThree : GoodIn wsX9_moot (wsV RX9 473 RX9 yX9_mootThree wsX9_mootThree) := goodIn_app (goodIn_of _ (by decide +kernel)) ggX9_moot_X9_mootThree
theorem dX9_moot_0 : decode cX9_moot 0 = .ok (.aload_n 0, 1) := by decide +kernel
theorem dX9_moot_1 : decode cX9_moot 1 = .ok (.iload_n 1, 1) := by decide +kernel
theorem dX9_moot_2 : decode cX9_moot 2 = .ok (.invokevirtual 390, 3) := by decide +kernel
theorem dX9_moot_5 : decode cX9_moot 5 = .ok (.ifCond .eq 21, 3) := by decide +kernel
theorem dX9_moot_8 : decode cX9_moot 8 = .ok (.iload_n 2, 1) := by decide +kernel
theorem dX9_moot_9 : decode cX9_moot 9 = .ok (.iconst 1, 1) := by decide +kernel
theorem dX9_moot_10 : decode cX9_moot 10 = .ok (.iconst 3, 1) := by decide +kernel
theorem dX9_moot_11 : decode cX9_moot 11 = .ok (.invokestatic 346, 3) := by decide +kernel
theorem dX9_moot_14 : decode cX9_moot 14 = .ok (.ifCond .eq 12, 3) := by decide +kernel
theorem dX9_moot_17 : decode cX9_moot 17 = .ok (.iload_n 3, 1) := by decide +kernel
theorem dX9_moot_18 : decode cX9_moot 18 = .ok (.iconst 0, 1) := by decide +kernel
theorem dX9_moot_19 : decode cX9_moot 19 = .ok (.iconst 1, 1) := by decide +kernel
theorem dX9_moot_20 : decode cX9_moot 20 = .ok (.invokestatic 346, 3) := by decide +kernel
theorem dX9_moot_23 : decode cX9_moot 23 = .ok (.ifCond .ne 6, 3) := by decide +kernel
theorem dX9_moot_26 : decode cX9_moot 26 = .ok (.bipush (-2), 2) := by decide +kernel
theorem dX9_moot_28 : decode cX9_moot 28 = .ok (.ireturn, 1) := by decide +kernel
theorem dX9_moot_29 : decode cX9_moot 29 = .ok (.iload_n 2, 1) := by decide +kernel
theorem dX9_moot_30 : decode cX9_moot 30 = .ok (.iconst 1, 1) := by decide +kernel
theorem dX9_moot_31 : decode cX9_moot 31 = .ok (.if_icmp .ne 18, 3) := by decide +kernel
theorem dX9_moot_34 : decode cX9_moot 34 = .ok (.aload_n 0, 1) := by decide +kernel
theorem dX9_moot_35 : decode cX9_moot 35 = .ok (.iload_n 1, 1) := by decide +kernel
theorem dX9_moot_36 : decode cX9_moot 36 = .ok (.aload_n 0, 1) := by decide +kernel
theorem dX9_moot_37 : decode cX9_moot 37 = .ok (.getfield 76, 3) := by decide +kernel
theorem dX9_moot_40 : decode cX9_moot 40 = .ok (.iconst 1, 1) := by decide +kernel
theorem dX9_moot_41 : decode cX9_moot 41 = .ok (.iaload, 1) := by decide +kernel
theorem dX9_moot_42 : decode cX9_moot 42 = .ok (.iconst 1, 1) := by decide +kernel
theorem dX9_moot_43 : decode cX9_moot 43 = .ok (.invokevirtual 467, 3) := by decide +kernel
theorem dX9_moot_46 : decode cX9_moot 46 = .ok (.goto 34, 3) := by decide +kernel
theorem dX9_moot_49 : decode cX9_moot 49 = .ok (.iload_n 2, 1) := by decide +kernel
theorem dX9_moot_50 : decode cX9_moot 50 = .ok (.iconst 2, 1) := by decide +kernel
theorem dX9_moot_51 : decode cX9_moot 51 = .ok (.if_icmp .ne 18, 3) := by decide +kernel
theorem dX9_moot_54 : decode cX9_moot 54 = .ok (.aload_n 0, 1) := by decide +kernel
theorem dX9_moot_55 : decode cX9_moot 55 = .ok (.iload_n 1, 1) := by decide +kernel
theorem dX9_moot_56 : decode cX9_moot 56 = .ok (.aload_n 0, 1) := by decide +kernel
theorem dX9_moot_57 : decode cX9_moot 57 = .ok (.getfield 76, 3) := by decide +kernel
theorem dX9_moot_60 : decode cX9_moot 60 = .ok (.iconst 1, 1) := by decide +kernel
theorem dX9_moot_61 : decode cX9_moot 61 = .ok (.iaload, 1) := by decide +kernel
theorem dX9_moot_62 : decode cX9_moot 62 = .ok (.iconst 1, 1) := by decide +kernel
theorem dX9_moot_63 : decode cX9_moot 63 = .ok (.invokevirtual 470, 3) := by decide +kernel
theorem dX9_moot_66 : decode cX9_moot 66 = .ok (.goto 14, 3) := by decide +kernel
theorem dX9_moot_69 : decode cX9_moot 69 = .ok (.aload_n 0, 1) := by decide +kernel
theorem dX9_moot_70 : decode cX9_moot 70 = .ok (.iload_n 1, 1) := by decide +kernel
theorem dX9_moot_71 : decode cX9_moot 71 = .ok (.aload_n 0, 1) := by decide +kernel
theorem dX9_moot_72 : decode cX9_moot 72 = .ok (.getfield 76, 3) := by decide +kernel
theorem dX9_moot_75 : decode cX9_moot 75 = .ok (.iconst 1, 1) := by decide +kernel
theorem dX9_moot_76 : decode cX9_moot 76 = .ok (.iaload, 1) := by decide +kernel
theorem dX9_moot_77 : decode cX9_moot 77 = .ok (.invokevirtual 473, 3) := by decide +kernel
theorem dX9_moot_80 : decode cX9_moot 80 = .ok (.istore 4, 2) := by decide +kernel
theorem dX9_moot_82 : decode cX9_moot 82 = .ok (.iload_n 3, 1) := by decide +kernel
theorem dX9_moot_83 : decode cX9_moot 83 = .ok (.ifCond .ne 8, 3) := by decide +kernel
theorem dX9_moot_86 : decode cX9_moot 86 = .ok (.iload 4, 2) := by decide +kernel
theorem dX9_moot_88 : decode cX9_moot 88 = .ok (.goto 7, 3) := by decide +kernel
theorem dX9_moot_91 : decode cX9_moot 91 = .ok (.aload_n 0, 1) := by decide +kernel
theorem dX9_moot_92 : decode cX9_moot 92 = .ok (.getfield 464, 3) := by decide +kernel
theorem dX9_moot_95 : decode cX9_moot 95 = .ok (.ireturn, 1) := by decide +kernel
theorem in_X9_rank_X9 : ∀ w ∈ wsX90, w ∈ wsX9_rank := fun _ h => List.mem_cons_of_mem _ (List.mem_append_right _ h)
theorem in_X9_ring_X9 : ∀ w ∈ wsX90, w ∈ wsX9_ring := fun _ h => List.mem_cons_of_mem _ (List.mem_append_right _ h)
theorem in_X9_mootLast_X9 : ∀ w ∈ wsX90, w ∈ wsX9_mootLast := fun _ h => List.mem_cons_of_mem _ (List.mem_append_right _ h)
theorem in_X9_mootTwo_X9 : ∀ w ∈ wsX90, w ∈ wsX9_mootTwo := fun _ h => List.mem_cons_of_mem _ (List.mem_append_right _ h)
theorem in_X9_mootThree_X9 : ∀ w ∈ wsX90, w ∈ wsX9_mootThree := fun _ h => List.mem_cons_of_mem _ (List.mem_append_right _ h)
theorem in_X9_moot_X9 : ∀ w ∈ wsX90, w ∈ wsX9_moot := fun _ h => List.mem_cons_of_mem _ (List.mem_append_right _ h)
theorem in_X9_fall_X9 : ∀ w ∈ wsX90, w ∈ wsX9_fall := fun _ h => List.mem_cons_of_mem _ (List.mem_append_right _ h)
theorem in_X9_without_X9 : ∀ w ∈ wsX90, w ∈ wsX9_without := fun _ h => List.mem_cons_of_mem _ (List.mem_append_right _ h)
set_option maxHeartbeats 4000000 in
set_option maxRecDepth 100000 in
theorem s_X9_lack_0 (l : Launch) (B0 : Nat) (adK adV : Nat → Nat) (D : va_G) (cy : Nat → ClassId) (ad : Nat → Nat) (fr0 : Nat → va_E) (c_text : Nat → Int32) (m_taped : Int32) (m_size : Int32) (m_faultKind : Int32) (m_faultPlace : Int32) (m_at : Int32) (m_end : Int32) (m_token : Int32) (m_number : Int32) (m_name : Int64) (c_points : Nat → Int32) (c_strands : Nat → Int32) (c_units : Nat → Int32) (c_told : Nat → Int32) (c_ruleFrom : Nat → Int32) (c_ruleTo : Nat → Int32) (c_code : Nat → Int32) (c_eWhat : Nat → Int32) (c_eSign : Nat → Int32) (m_bank : Int32) (m_rb : Int32) (m_codes : Int32) (m_within : Int32) (m_piled : Int32) (m_unitsInRule : Int32) (m_askStrand : Int32) (m_askTied : Int32) (m_thoughtClaim : Int32) (m_thoughtNeed : Int32) (m_thoughtAll : Int32) (c_roundOf : Nat → Int32) (m_acts : Int32) (m_undone : Int32) (m_laid : Int32) (m_firstMove : Int32) (m_seens : Int32) (m_time : Int32) (m_waysNow : Int32) (m_fitting : Int32) (f : Nat → va_E) (hT : TYm ad cy fr0 c_text m_taped m_size m_faultKind m_faultPlace m_at m_end m_token m_number m_name c_points c_strands c_units c_told c_ruleFrom c_ruleTo c_code c_eWhat c_eSign m_bank m_rb m_codes m_within m_piled m_unitsInRule m_askStrand m_askTied m_thoughtClaim m_thoughtNeed m_thoughtAll c_roundOf m_acts m_undone m_laid m_firstMove m_seens m_time m_waysNow m_fitting f) (p1 : Int32) (hCV : CVp c_told c_ruleFrom c_ruleTo c_code m_bank) (sz : Nat) : TtI l yX9_lack wsX9_lack 7 158 [.ref (ad 148), .int p1] B0 adK adV D cy ad f sz (fun (r : Int32) (g : Nat → va_E) => True ∧ (∃ (m_askStrand' : Int32) (m_askTied' : Int32) (c_roundOf' : Nat → Int32), TYm ad cy fr0 c_text m_taped m_size m_faultKind m_faultPlace m_at m_end m_token m_number m_name c_points c_strands c_units c_told c_ruleFrom c_ruleTo c_code c_eWhat c_eSign m_bank m_rb m_codes m_within m_piled m_unitsInRule m_askStrand' m_askTied' m_thoughtClaim m_thoughtNeed m_thoughtAll c_roundOf' m_acts m_undone m_laid m_firstMove m_seens m_time m_waysNow m_fitting g)) := by
  refine TtI.of (cc := cX9_lack) (maxL := 3) (ty := .int) (own := RX9) (by decide) rfl (Nat.le_of_ble_eq_true rfl) rfl ?_
  intro p e s m below meth c A ls hx hb hr hml hts hown hlk hK hE hP hD hS hA hAB hl
  have hl : lv_has ls 3 [(0, .ref (ad 148)), (1, .int p1)] := hl
  refine st0 (fun H locs hP hS => ?_) hP hS
  refine lv_aload_n hx hb dX9_lack_0 rfl (lv_at hl 0 rfl) ?_
  refine lv_iload_n hx hb dX9_lack_1 rfl (lv_at hl 1 rfl) ?_
  obtain ⟨e16, h1, h2, h3, h4, h5, h6, h7, h8, h9, h10, h11, h12, h13, h14, h15⟩ := (show okX9 ad m_taped m_size m_faultKind m_faultPlace m_at m_end m_token m_number m_name m_bank m_rb m_codes m_within m_piled m_unitsInRule m_askStrand m_askTied m_thoughtClaim m_thoughtNeed m_thoughtAll m_acts m_undone m_laid m_firstMove m_seens m_time m_waysNow m_fitting 148 (f 148) from hT.1 148 (by decide))
  refine tVI (As := [.int p1]) (rest := []) (i := 148) ⟨hx, hb, hml, hown, hts⟩ hK hE hP hD hS hA hAB (s_X9_isClaim_0 l B0 adK adV D cy ad fr0 c_text m_taped m_size m_faultKind m_faultPlace m_at m_end m_token m_number m_name c_points c_strands c_units c_told c_ruleFrom c_ruleTo c_code c_eWhat c_eSign m_bank m_rb m_codes m_within m_piled m_unitsInRule m_askStrand m_askTied m_thoughtClaim m_thoughtNeed m_thoughtAll c_roundOf m_acts m_undone m_laid m_firstMove m_seens m_time m_waysNow m_fitting f hT p1 _) (cwV 1 hts gX9_lack_X9_isClaim rfl rfl rfl (by decide +kernel) ⟨Nat.le_of_ble_eq_true rfl, Nat.le_of_ble_eq_true rfl⟩) (by decide) 9 e16 rfl rfl hl.1 rfl (Nat.le_of_ble_eq_true rfl) dX9_lack_2 ⟨Nat.le_of_ble_eq_true rfl, Nat.le_of_ble_eq_true rfl⟩ (fun r g H locs hw hP hD hS => ?_)
  obtain ⟨hrs, rfl⟩ := hw
  obtain ⟨x17, rfl⟩ : ∃ q, q = r := ⟨_, rfl⟩
  rcases hrs with ⟨rfl, h18, h19⟩ | rfl
  · refine lv_if_ne (tgt := 10) hx hb dX9_lack_5 (by decide) (fun _ => ?_) (fun c => absurd c (by decide))
    refine lv_aload_n hx hb dX9_lack_10 rfl (lv_at hl 0 rfl) ?_
    refine tVI (As := []) (rest := []) (i := 148) ⟨hx, hb, hml, hown, hts⟩ hK hE hP hD hS hA hAB (s_X9_standNow_0 l B0 adK adV D cy ad fr0 c_text m_taped m_size m_faultKind m_faultPlace m_at m_end m_token m_number m_name c_points c_strands c_units c_told c_ruleFrom c_ruleTo c_code c_eWhat c_eSign m_bank m_rb m_codes m_within m_piled m_unitsInRule m_askStrand m_askTied m_thoughtClaim m_thoughtNeed m_thoughtAll c_roundOf m_acts m_undone m_laid m_firstMove m_seens m_time m_waysNow m_fitting f hT hCV _) (cwV 0 hts gX9_lack_X9_standNow rfl rfl rfl (by decide +kernel) ⟨Nat.le_of_ble_eq_true rfl, Nat.le_of_ble_eq_true rfl⟩) (by decide) 9 e16 rfl rfl hl.1 rfl (Nat.le_of_ble_eq_true rfl) dX9_lack_11 ⟨Nat.le_of_ble_eq_true rfl, Nat.le_of_ble_eq_true rfl⟩ (fun r f H locs hw hP hD hS => ?_)
    obtain ⟨hrs, x20, x21, y22, hT, h23⟩ := hw
    obtain ⟨x24, rfl⟩ : ∃ q, q = r := ⟨_, rfl⟩
    have h25 := hrs
    refine lv_istore_n (lv' := [(2, .int x24), (0, .ref (ad 148)), (1, .int p1)]) hx hb dX9_lack_14 rfl hl (by decide) rfl (fun ls hl => ?_)
    refine lv_iload_n hx hb dX9_lack_15 rfl (lv_at hl 0 rfl) ?_
    refine lv_iload_n hx hb dX9_lack_16 rfl (lv_at hl 2 rfl) ?_
    refine tSI (As := [.int x24, .int p1]) (rest := []) ⟨hx, hb, hml, hown, hts⟩ hK hE hP hD hS hA hAB (s_X9_bit_0 l B0 adK adV D cy ad f x24 p1 (by omega) _) (va_cwS 2 hts gX9_lack_X9_bit rfl rfl rfl (by decide +kernel) ⟨Nat.le_of_ble_eq_true rfl, Nat.le_of_ble_eq_true rfl⟩) rfl hl.1 rfl (Nat.le_of_ble_eq_true rfl) dX9_lack_17 ⟨Nat.le_of_ble_eq_true rfl, Nat.le_of_ble_eq_true rfl⟩ (fun r g H locs hw hP hD hS => ?_)
    obtain ⟨hrs, rfl⟩ := hw
    obtain ⟨x26, rfl⟩ : ∃ q, q = r := ⟨_, rfl⟩
    rcases hrs with ⟨rfl, h27⟩ | ⟨rfl, h28⟩
    · refine lv_if_eq (tgt := 27) hx hb dX9_lack_20 (by decide) (fun c => absurd c (by decide)) (fun _ => ?_)
      refine lv_iconst (v := 0) hx hb dX9_lack_23 (by decide) ?_
      refine lv_goto (tgt := 39) hx hb dX9_lack_24 (by decide) ?_
      have ttl_0 := tl_0
      exact tI hx hb hr hlk rfl hP hS ⟨trivial, ⟨x20, x21, y22, hT⟩⟩ dX9_lack_39
    · refine lv_if_eq (tgt := 27) hx hb dX9_lack_20 (by decide) (fun _ => ?_) (fun c => absurd (by decide) c)
      refine lv_aload_n hx hb dX9_lack_27 rfl (lv_at hl 1 rfl) ?_
      refine lv_iload_n hx hb dX9_lack_28 rfl (lv_at hl 2 rfl) ?_
      obtain ⟨e44, h29, h30, h31, h32, h33, h34, h35, h36, h37, h38, h39, h40, h41, h42, h43⟩ := (show okX9 ad m_taped m_size m_faultKind m_faultPlace m_at m_end m_token m_number m_name m_bank m_rb m_codes m_within m_piled m_unitsInRule x20 x21 m_thoughtClaim m_thoughtNeed m_thoughtAll m_acts m_undone m_laid m_firstMove m_seens m_time m_waysNow m_fitting 148 (f 148) from hT.1 148 (by decide))
      refine tVI (As := [.int p1]) (rest := []) (i := 148) ⟨hx, hb, hml, hown, hts⟩ hK hE hP hD hS hA hAB (s_X9_needOf_0 l B0 adK adV D cy ad fr0 c_text m_taped m_size m_faultKind m_faultPlace m_at m_end m_token m_number m_name c_points c_strands c_units c_told c_ruleFrom c_ruleTo c_code c_eWhat c_eSign m_bank m_rb m_codes m_within m_piled m_unitsInRule x20 x21 m_thoughtClaim m_thoughtNeed m_thoughtAll y22 m_acts m_undone m_laid m_firstMove m_seens m_time m_waysNow m_fitting f hT p1 (by omega) _) (cwV 1 hts gX9_lack_X9_needOf rfl rfl rfl (by decide +kernel) ⟨Nat.le_of_ble_eq_true rfl, Nat.le_of_ble_eq_true rfl⟩) (by decide) 9 e44 rfl rfl hl.1 rfl (Nat.le_of_ble_eq_true rfl) dX9_lack_29 ⟨Nat.le_of_ble_eq_true rfl, Nat.le_of_ble_eq_true rfl⟩ (fun r g H locs hw hP hD hS => ?_)
      obtain ⟨hrs, rfl⟩ := hw
      obtain ⟨x45, rfl⟩ : ∃ q, q = r := ⟨_, rfl⟩
      have h46 := hrs
      refine lv_aload_n hx hb dX9_lack_32 rfl (lv_at hl 1 rfl) ?_
      refine lv_iload_n hx hb dX9_lack_33 rfl (lv_at hl 2 rfl) ?_
      refine lv_iload_n hx hb dX9_lack_34 rfl (lv_at hl 0 rfl) ?_
      refine tVI (As := [.int p1, .int x24]) (rest := [.int x45]) (i := 148) ⟨hx, hb, hml, hown, hts⟩ hK hE hP hD hS hA hAB (s_X9_borne_0 l B0 adK adV D cy ad fr0 c_text m_taped m_size m_faultKind m_faultPlace m_at m_end m_token m_number m_name c_points c_strands c_units c_told c_ruleFrom c_ruleTo c_code c_eWhat c_eSign m_bank m_rb m_codes m_within m_piled m_unitsInRule x20 x21 m_thoughtClaim m_thoughtNeed m_thoughtAll y22 m_acts m_undone m_laid m_firstMove m_seens m_time m_waysNow m_fitting f hT p1 (by omega) x24 (by omega) _) (cwV 2 hts gX9_lack_X9_borne rfl rfl rfl (by decide +kernel) ⟨Nat.le_of_ble_eq_true rfl, Nat.le_of_ble_eq_true rfl⟩) (by decide) 9 e44 rfl rfl hl.1 rfl (Nat.le_of_ble_eq_true rfl) dX9_lack_35 ⟨Nat.le_of_ble_eq_true rfl, Nat.le_of_ble_eq_true rfl⟩ (fun r g H locs hw hP hD hS => ?_)
      obtain ⟨hrs, rfl⟩ := hw
      obtain ⟨x47, rfl⟩ : ∃ q, q = r := ⟨_, rfl⟩
      have h48 := hrs
      refine lv_isub hx hb dX9_lack_38 ?_
      refine lv_topi (fun x49 ex49 => ?_)
      exact tI hx hb hr hlk rfl hP hS ⟨trivial, ⟨x20, x21, y22, hT⟩⟩ dX9_lack_39
  · refine lv_if_ne (tgt := 10) hx hb dX9_lack_5 (by decide) (fun c => absurd (by decide) c) (fun _ => ?_)
    refine lv_iconst (v := (-1)) hx hb dX9_lack_8 (by decide) ?_
    have ttl_m1 := tl_m1
    exact tI hx hb hr hlk rfl hP hS ⟨trivial, ⟨m_askStrand, m_askTied, c_roundOf, hT⟩⟩ dX9_lack_9
set_option maxHeartbeats 4000000 in
set_option maxRecDepth 100000 in
theorem s_X9_rank_0 (l : Launch) (B0 : Nat) (adK adV : Nat → Nat) (D : va_G) (cy : Nat → ClassId) (ad : Nat → Nat) (fr0 : Nat → va_E) (c_text : Nat → Int32) (m_taped : Int32) (m_size : Int32) (m_faultKind : Int32) (m_faultPlace : Int32) (m_at : Int32) (m_end : Int32) (m_token : Int32) (m_number : Int32) (m_name : Int64) (c_points : Nat → Int32) (c_strands : Nat → Int32) (c_units : Nat → Int32) (c_told : Nat → Int32) (c_ruleFrom : Nat → Int32) (c_ruleTo : Nat → Int32) (c_code : Nat → Int32) (c_eWhat : Nat → Int32) (c_eSign : Nat → Int32) (m_bank : Int32) (m_rb : Int32) (m_codes : Int32) (m_within : Int32) (m_piled : Int32) (m_unitsInRule : Int32) (m_askStrand : Int32) (m_askTied : Int32) (m_thoughtClaim : Int32) (m_thoughtNeed : Int32) (m_thoughtAll : Int32) (c_roundOf : Nat → Int32) (m_acts : Int32) (m_undone : Int32) (m_laid : Int32) (m_firstMove : Int32) (m_seens : Int32) (m_time : Int32) (m_waysNow : Int32) (m_fitting : Int32) (f : Nat → va_E) (hT : TYm ad cy fr0 c_text m_taped m_size m_faultKind m_faultPlace m_at m_end m_token m_number m_name c_points c_strands c_units c_told c_ruleFrom c_ruleTo c_code c_eWhat c_eSign m_bank m_rb m_codes m_within m_piled m_unitsInRule m_askStrand m_askTied m_thoughtClaim m_thoughtNeed m_thoughtAll c_roundOf m_acts m_undone m_laid m_firstMove m_seens m_time m_waysNow m_fitting f) (p1 : Int32) (hCV : CVp c_told c_ruleFrom c_ruleTo c_code m_bank) (sz : Nat) : TtI l yX9_rank wsX9_rank 7 158 [.ref (ad 148), .int p1] B0 adK adV D cy ad f sz (fun (r : Int32) (g : Nat → va_E) => True ∧ (∃ (m_askStrand' : Int32) (m_askTied' : Int32) (c_roundOf' : Nat → Int32), TYm ad cy fr0 c_text m_taped m_size m_faultKind m_faultPlace m_at m_end m_token m_number m_name c_points c_strands c_units c_told c_ruleFrom c_ruleTo c_code c_eWhat c_eSign m_bank m_rb m_codes m_within m_piled m_unitsInRule m_askStrand' m_askTied' m_thoughtClaim m_thoughtNeed m_thoughtAll c_roundOf' m_acts m_undone m_laid m_firstMove m_seens m_time m_waysNow m_fitting g)) := by
  refine TtI.of (cc := cX9_rank) (maxL := 3) (ty := .int) (own := RX9) (by decide) rfl (Nat.le_of_ble_eq_true rfl) rfl ?_
  intro p e s m below meth c A ls hx hb hr hml hts hown hlk hK hE hP hD hS hA hAB hl
  have hl : lv_has ls 3 [(0, .ref (ad 148)), (1, .int p1)] := hl
  refine st0 (fun H locs hP hS => ?_) hP hS
  refine lv_aload_n hx hb dX9_rank_0 rfl (lv_at hl 0 rfl) ?_
  refine lv_iload_n hx hb dX9_rank_1 rfl (lv_at hl 1 rfl) ?_
  obtain ⟨e16, h1, h2, h3, h4, h5, h6, h7, h8, h9, h10, h11, h12, h13, h14, h15⟩ := (show okX9 ad m_taped m_size m_faultKind m_faultPlace m_at m_end m_token m_number m_name m_bank m_rb m_codes m_within m_piled m_unitsInRule m_askStrand m_askTied m_thoughtClaim m_thoughtNeed m_thoughtAll m_acts m_undone m_laid m_firstMove m_seens m_time m_waysNow m_fitting 148 (f 148) from hT.1 148 (by decide))
  refine tVI (As := [.int p1]) (rest := []) (i := 148) ⟨hx, hb, hml, hown, hts⟩ hK hE hP hD hS hA hAB (s_X9_isPoint_0 l B0 adK adV D cy ad fr0 c_text m_taped m_size m_faultKind m_faultPlace m_at m_end m_token m_number m_name c_points c_strands c_units c_told c_ruleFrom c_ruleTo c_code c_eWhat c_eSign m_bank m_rb m_codes m_within m_piled m_unitsInRule m_askStrand m_askTied m_thoughtClaim m_thoughtNeed m_thoughtAll c_roundOf m_acts m_undone m_laid m_firstMove m_seens m_time m_waysNow m_fitting f hT p1 _) (cwV 1 hts gX9_rank_X9_isPoint rfl rfl rfl (by decide +kernel) ⟨Nat.le_of_ble_eq_true rfl, Nat.le_of_ble_eq_true rfl⟩) (by decide) 9 e16 rfl rfl hl.1 rfl (Nat.le_of_ble_eq_true rfl) dX9_rank_2 ⟨Nat.le_of_ble_eq_true rfl, Nat.le_of_ble_eq_true rfl⟩ (fun r g H locs hw hP hD hS => ?_)
  obtain ⟨hrs, rfl⟩ := hw
  obtain ⟨x17, rfl⟩ : ∃ q, q = r := ⟨_, rfl⟩
  rcases hrs with ⟨rfl, h18, h19⟩ | rfl
  · refine lv_if_ne (tgt := 10) hx hb dX9_rank_5 (by decide) (fun _ => ?_) (fun c => absurd c (by decide))
    refine lv_aload_n hx hb dX9_rank_10 rfl (lv_at hl 0 rfl) ?_
    refine tVI (As := []) (rest := []) (i := 148) ⟨hx, hb, hml, hown, hts⟩ hK hE hP hD hS hA hAB (s_X9_standNow_0 l B0 adK adV D cy ad fr0 c_text m_taped m_size m_faultKind m_faultPlace m_at m_end m_token m_number m_name c_points c_strands c_units c_told c_ruleFrom c_ruleTo c_code c_eWhat c_eSign m_bank m_rb m_codes m_within m_piled m_unitsInRule m_askStrand m_askTied m_thoughtClaim m_thoughtNeed m_thoughtAll c_roundOf m_acts m_undone m_laid m_firstMove m_seens m_time m_waysNow m_fitting f hT hCV _) (cwV 0 hts gX9_rank_X9_standNow rfl rfl rfl (by decide +kernel) ⟨Nat.le_of_ble_eq_true rfl, Nat.le_of_ble_eq_true rfl⟩) (by decide) 9 e16 rfl rfl hl.1 rfl (Nat.le_of_ble_eq_true rfl) dX9_rank_11 ⟨Nat.le_of_ble_eq_true rfl, Nat.le_of_ble_eq_true rfl⟩ (fun r f H locs hw hP hD hS => ?_)
    obtain ⟨hrs, x20, x21, y22, hT, h23⟩ := hw
    obtain ⟨x24, rfl⟩ : ∃ q, q = r := ⟨_, rfl⟩
    have h25 := hrs
    refine lv_istore_n (lv' := [(2, .int x24), (0, .ref (ad 148)), (1, .int p1)]) hx hb dX9_rank_14 rfl hl (by decide) rfl (fun ls hl => ?_)
    refine lv_iload_n hx hb dX9_rank_15 rfl (lv_at hl 0 rfl) ?_
    refine lv_iload_n hx hb dX9_rank_16 rfl (lv_at hl 2 rfl) ?_
    refine tSI (As := [.int x24, .int p1]) (rest := []) ⟨hx, hb, hml, hown, hts⟩ hK hE hP hD hS hA hAB (s_X9_bit_0 l B0 adK adV D cy ad f x24 p1 (by omega) _) (va_cwS 2 hts gX9_rank_X9_bit rfl rfl rfl (by decide +kernel) ⟨Nat.le_of_ble_eq_true rfl, Nat.le_of_ble_eq_true rfl⟩) rfl hl.1 rfl (Nat.le_of_ble_eq_true rfl) dX9_rank_17 ⟨Nat.le_of_ble_eq_true rfl, Nat.le_of_ble_eq_true rfl⟩ (fun r g H locs hw hP hD hS => ?_)
    obtain ⟨hrs, rfl⟩ := hw
    obtain ⟨x26, rfl⟩ : ∃ q, q = r := ⟨_, rfl⟩
    rcases hrs with ⟨rfl, h27⟩ | ⟨rfl, h28⟩
    · refine lv_if_eq (tgt := 32) hx hb dX9_rank_20 (by decide) (fun c => absurd c (by decide)) (fun _ => ?_)
      refine lv_aload_n hx hb dX9_rank_23 rfl (lv_at hl 1 rfl) ?_
      obtain ⟨e44, h29, h30, h31, h32, h33, h34, h35, h36, h37, h38, h39, h40, h41, h42, h43⟩ := (show okX9 ad m_taped m_size m_faultKind m_faultPlace m_at m_end m_token m_number m_name m_bank m_rb m_codes m_within m_piled m_unitsInRule x20 x21 m_thoughtClaim m_thoughtNeed m_thoughtAll m_acts m_undone m_laid m_firstMove m_seens m_time m_waysNow m_fitting 148 (f 148) from hT.1 148 (by decide))
      refine va_get (D := D) (cl := vwCl) (ci := 9) (v := .ref (ad 172)) (C := RX9) (T := TX9) (N := 64) hx hb hts in_X9_rank_X9 hown hK hP 148 (wl_at (by decide) e44) rfl 43 (by decide) (hts (.fieldLink RX9 91 "EightReasonsModel" "roundOf" "[I") (List.mem_of_getElem? (i := 1) rfl)) (fun _ h9 => h9) rfl dX9_rank_24 ?_
      refine lv_iload_n hx hb dX9_rank_27 rfl (lv_at hl 2 rfl) ?_
      have e45 : f 172 = _ := (show okIp cy 10 y22 (f 172) from hT.1 172 (by decide))
      refine va_iald hx hb hK hP 172 0 (wl_at (by decide) e45) rfl (vp_in_iff.mpr ⟨by omega, by omega⟩) dX9_rank_28 ?_
      refine lv_topi (fun x46 ex46 => ?_)
      have kx46 := congrArg Int32.toInt ex46
      refine lv_goto (tgt := 33) hx hb dX9_rank_29 (by decide) ?_
      exact tI hx hb hr hlk rfl hP hS ⟨trivial, ⟨x20, x21, y22, hT⟩⟩ dX9_rank_33
    · refine lv_if_eq (tgt := 32) hx hb dX9_rank_20 (by decide) (fun _ => ?_) (fun c => absurd (by decide) c)
      refine lv_iconst (v := (-1)) hx hb dX9_rank_32 (by decide) ?_
      have ttl_m1 := tl_m1
      exact tI hx hb hr hlk rfl hP hS ⟨trivial, ⟨x20, x21, y22, hT⟩⟩ dX9_rank_33
  · refine lv_if_ne (tgt := 10) hx hb dX9_rank_5 (by decide) (fun c => absurd (by decide) c) (fun _ => ?_)
    refine lv_iconst (v := (-1)) hx hb dX9_rank_8 (by decide) ?_
    have ttl_m1 := tl_m1
    exact tI hx hb hr hlk rfl hP hS ⟨trivial, ⟨m_askStrand, m_askTied, c_roundOf, hT⟩⟩ dX9_rank_9
set_option maxHeartbeats 4000000 in
set_option maxRecDepth 100000 in
theorem s_X9_isRing_0 (l : Launch) (B0 : Nat) (adK adV : Nat → Nat) (D : va_G) (cy : Nat → ClassId) (ad : Nat → Nat) (fr0 : Nat → va_E) (c_text : Nat → Int32) (m_taped : Int32) (m_size : Int32) (m_faultKind : Int32) (m_faultPlace : Int32) (m_at : Int32) (m_end : Int32) (m_token : Int32) (m_number : Int32) (m_name : Int64) (c_points : Nat → Int32) (c_strands : Nat → Int32) (c_units : Nat → Int32) (c_told : Nat → Int32) (c_ruleFrom : Nat → Int32) (c_ruleTo : Nat → Int32) (c_code : Nat → Int32) (c_eWhat : Nat → Int32) (c_eSign : Nat → Int32) (m_bank : Int32) (m_rb : Int32) (m_codes : Int32) (m_within : Int32) (m_piled : Int32) (m_unitsInRule : Int32) (m_askStrand : Int32) (m_askTied : Int32) (m_thoughtClaim : Int32) (m_thoughtNeed : Int32) (m_thoughtAll : Int32) (c_roundOf : Nat → Int32) (m_acts : Int32) (m_undone : Int32) (m_laid : Int32) (m_firstMove : Int32) (m_seens : Int32) (m_time : Int32) (m_waysNow : Int32) (m_fitting : Int32) (f : Nat → va_E) (hT : TYm ad cy fr0 c_text m_taped m_size m_faultKind m_faultPlace m_at m_end m_token m_number m_name c_points c_strands c_units c_told c_ruleFrom c_ruleTo c_code c_eWhat c_eSign m_bank m_rb m_codes m_within m_piled m_unitsInRule m_askStrand m_askTied m_thoughtClaim m_thoughtNeed m_thoughtAll c_roundOf m_acts m_undone m_laid m_firstMove m_seens m_time m_waysNow m_fitting f) (p1 : Int32) (hp1 : 1 ≤ p1.toInt ∧ p1.toInt ≤ 1120) (sz : Nat) : TtI l yX9_isRing wsX9_isRing 2 45 [.ref (ad 148), .int p1] B0 adK adV D cy ad f sz (fun (r : Int32) (g : Nat → va_E) => ((r = 1) ∨ (r = 0)) ∧ (f = g)) := by
  refine TtI.of (cc := cX9_isRing) (maxL := 3) (ty := .boolean) (own := RX9) (by decide) rfl (Nat.le_of_ble_eq_true rfl) rfl ?_
  intro p e s m below meth c A ls hx hb hr hml hts hown hlk hK hE hP hD hS hA hAB hl
  have hl : lv_has ls 3 [(0, .ref (ad 148)), (1, .int p1)] := hl
  refine st0 (fun H locs hP hS => ?_) hP hS
  have j2 : ∀ (N : Nat) (H : Heap) (locs : List Loc) (ls : Array Slot) (v2_l2 : Int32), (11 - v2_l2.toInt ≤ (N : Int)) → (0 ≤ v2_l2.toInt ∧ v2_l2.toInt ≤ 10) → (1 ≤ p1.toInt ∧ p1.toInt ≤ 1120) → (va_P D vwCl (wl ad f) H) → (va_D A (wl ad f)) → (va_S A s.heap H locs) → (lv_has ls 3 [(2, .int v2_l2), (0, .ref (ad 148)), (1, .int p1)]) → W p l e (rmO 2 45 0 0) s m ([.ref (ad 148), .int p1] : List Value).toArray below meth c H locs 0 0 (MQ below (va_Qi (fun (r : Int32) (g : Nat → va_E) => ((r = 1) ∨ (r = 0)) ∧ (f = g)) (fun g t => PstT D ad g t) A) ([.ref (ad 148), .int p1] : List Value).toArray s 0 0 A) (F0 m 2 ls []) := by
    intro N
    induction N with
    | zero => intro H locs ls v2_l2 hN hv2_l2 hv2_l1 hP hD hS hl; exact absurd hN (by omega)
    | succ N ih2 =>
      intro H locs ls v2_l2 hN hv2_l2 hv2_l1 hP hD hS hl
      have j34 : ∀ (H : Heap) (locs : List Loc) (ls : Array Slot), (0 ≤ v2_l2.toInt ∧ v2_l2.toInt ≤ 9) → (1 ≤ p1.toInt ∧ p1.toInt ≤ 1120) → (va_P D vwCl (wl ad f) H) → (va_D A (wl ad f)) → (va_S A s.heap H locs) → (lv_has ls 3 [(2, .int v2_l2), (0, .ref (ad 148)), (1, .int p1)]) → W p l e (rmO 2 45 0 0) s m ([.ref (ad 148), .int p1] : List Value).toArray below meth c H locs 0 0 (MQ below (va_Qi (fun (r : Int32) (g : Nat → va_E) => ((r = 1) ∨ (r = 0)) ∧ (f = g)) (fun g t => PstT D ad g t) A) ([.ref (ad 148), .int p1] : List Value).toArray s 0 0 A) (F0 m 34 ls []) := by
        intro H locs ls hv34_l2 hv34_l1 hP hD hS hl
        obtain ⟨x1, ex1⟩ : ∃ q : Int32, q = v2_l2 + Int32.ofInt (1) := ⟨_, rfl⟩
        refine lv_iinc (v := x1) (lv' := [(2, .int x1), (0, .ref (ad 148)), (1, .int p1)]) hx hb dX9_isRing_34 hl (k := 0) rfl ex1.symm (by decide) rfl (fun ls hl => ?_)
        have hx1 := r_inc ex1 (by decide) (by omega) (by omega)
        refine lv_goto (tgt := 2) hx hb dX9_isRing_37 (by decide) ?_
        exact ih2 H locs ls x1 (by omega) (by omega) (by omega) hP hD hS (lv_sub hl [0, 1, 2] rfl)
      refine lv_iload_n hx hb dX9_isRing_2 rfl (lv_at hl 0 rfl) ?_
      refine lv_aload_n hx hb dX9_isRing_3 rfl (lv_at hl 1 rfl) ?_
      obtain ⟨e17, h2, h3, h4, h5, h6, h7, h8, h9, h10, h11, h12, h13, h14, h15, h16⟩ := (show okX9 ad m_taped m_size m_faultKind m_faultPlace m_at m_end m_token m_number m_name m_bank m_rb m_codes m_within m_piled m_unitsInRule m_askStrand m_askTied m_thoughtClaim m_thoughtNeed m_thoughtAll m_acts m_undone m_laid m_firstMove m_seens m_time m_waysNow m_fitting 148 (f 148) from hT.1 148 (by decide))
      refine tVI (As := []) (rest := [.int v2_l2]) (i := 148) ⟨hx, hb, hml, hown, hts⟩ hK hE hP hD hS hA hAB (s_X9_many_0 l B0 adK adV D cy ad fr0 c_text m_taped m_size m_faultKind m_faultPlace m_at m_end m_token m_number m_name c_points c_strands c_units c_told c_ruleFrom c_ruleTo c_code c_eWhat c_eSign m_bank m_rb m_codes m_within m_piled m_unitsInRule m_askStrand m_askTied m_thoughtClaim m_thoughtNeed m_thoughtAll c_roundOf m_acts m_undone m_laid m_firstMove m_seens m_time m_waysNow m_fitting f hT _) (cwV 0 hts gX9_isRing_X9_many rfl rfl rfl (by decide +kernel) ⟨Nat.le_of_ble_eq_true rfl, Nat.le_of_ble_eq_true rfl⟩) (by decide) 9 e17 rfl rfl hl.1 rfl (Nat.le_of_ble_eq_true rfl) dX9_isRing_4 ⟨Nat.le_of_ble_eq_true rfl, Nat.le_of_ble_eq_true rfl⟩ (fun r g H locs hw hP hD hS => ?_)
      obtain ⟨hrs, rfl⟩ := hw
      obtain ⟨x18, rfl⟩ : ∃ q, q = r := ⟨_, rfl⟩
      have h19 := hrs
      refine lv_icmp_ge (tgt := 40) hx hb dX9_isRing_7 (by decide) (fun c20 => ?_) (fun c20 => ?_)
      · have kc20 := c_le c20
        refine lv_iconst (v := 1) hx hb dX9_isRing_40 (by decide) ?_
        have ttl_1 := tl_1
        exact tI hx hb hr hlk rfl hP hS ⟨(Or.inl rfl), rfl⟩ dX9_isRing_41
      · have kc20 := c_nle c20
        refine lv_iload_n hx hb dX9_isRing_10 rfl (lv_at hl 2 rfl) ?_
        refine lv_iload_n hx hb dX9_isRing_11 rfl (lv_at hl 0 rfl) ?_
        refine tSI (As := [.int p1, .int v2_l2]) (rest := []) ⟨hx, hb, hml, hown, hts⟩ hK hE hP hD hS hA hAB (s_X9_bit_0 l B0 adK adV D cy ad f p1 v2_l2 (by omega) _) (va_cwS 2 hts gX9_isRing_X9_bit rfl rfl rfl (by decide +kernel) ⟨Nat.le_of_ble_eq_true rfl, Nat.le_of_ble_eq_true rfl⟩) rfl hl.1 rfl (Nat.le_of_ble_eq_true rfl) dX9_isRing_12 ⟨Nat.le_of_ble_eq_true rfl, Nat.le_of_ble_eq_true rfl⟩ (fun r g H locs hw hP hD hS => ?_)
        obtain ⟨hrs, rfl⟩ := hw
        obtain ⟨x21, rfl⟩ : ∃ q, q = r := ⟨_, rfl⟩
        rcases hrs with ⟨rfl, h22⟩ | ⟨rfl, h23⟩
        · refine lv_if_eq (tgt := 34) hx hb dX9_isRing_15 (by decide) (fun c => absurd c (by decide)) (fun _ => ?_)
          refine lv_aload_n hx hb dX9_isRing_18 rfl (lv_at hl 1 rfl) ?_
          refine lv_iload_n hx hb dX9_isRing_19 rfl (lv_at hl 0 rfl) ?_
          refine lv_iload_n hx hb dX9_isRing_20 rfl (lv_at hl 2 rfl) ?_
          refine tVI (As := [.int v2_l2, .int p1]) (rest := []) (i := 148) ⟨hx, hb, hml, hown, hts⟩ hK hE hP hD hS hA hAB (s_X9_borne_0 l B0 adK adV D cy ad fr0 c_text m_taped m_size m_faultKind m_faultPlace m_at m_end m_token m_number m_name c_points c_strands c_units c_told c_ruleFrom c_ruleTo c_code c_eWhat c_eSign m_bank m_rb m_codes m_within m_piled m_unitsInRule m_askStrand m_askTied m_thoughtClaim m_thoughtNeed m_thoughtAll c_roundOf m_acts m_undone m_laid m_firstMove m_seens m_time m_waysNow m_fitting f hT v2_l2 (by omega) p1 (by omega) _) (cwV 2 hts gX9_isRing_X9_borne rfl rfl rfl (by decide +kernel) ⟨Nat.le_of_ble_eq_true rfl, Nat.le_of_ble_eq_true rfl⟩) (by decide) 9 e17 rfl rfl hl.1 rfl (Nat.le_of_ble_eq_true rfl) dX9_isRing_21 ⟨Nat.le_of_ble_eq_true rfl, Nat.le_of_ble_eq_true rfl⟩ (fun r g H locs hw hP hD hS => ?_)
          obtain ⟨hrs, rfl⟩ := hw
          obtain ⟨x24, rfl⟩ : ∃ q, q = r := ⟨_, rfl⟩
          have h25 := hrs
          refine lv_aload_n hx hb dX9_isRing_24 rfl (lv_at hl 1 rfl) ?_
          refine lv_iload_n hx hb dX9_isRing_25 rfl (lv_at hl 0 rfl) ?_
          refine tVI (As := [.int v2_l2]) (rest := [.int x24]) (i := 148) ⟨hx, hb, hml, hown, hts⟩ hK hE hP hD hS hA hAB (s_X9_needOf_0 l B0 adK adV D cy ad fr0 c_text m_taped m_size m_faultKind m_faultPlace m_at m_end m_token m_number m_name c_points c_strands c_units c_told c_ruleFrom c_ruleTo c_code c_eWhat c_eSign m_bank m_rb m_codes m_within m_piled m_unitsInRule m_askStrand m_askTied m_thoughtClaim m_thoughtNeed m_thoughtAll c_roundOf m_acts m_undone m_laid m_firstMove m_seens m_time m_waysNow m_fitting f hT v2_l2 (by omega) _) (cwV 1 hts gX9_isRing_X9_needOf rfl rfl rfl (by decide +kernel) ⟨Nat.le_of_ble_eq_true rfl, Nat.le_of_ble_eq_true rfl⟩) (by decide) 9 e17 rfl rfl hl.1 rfl (Nat.le_of_ble_eq_true rfl) dX9_isRing_26 ⟨Nat.le_of_ble_eq_true rfl, Nat.le_of_ble_eq_true rfl⟩ (fun r g H locs hw hP hD hS => ?_)
          obtain ⟨hrs, rfl⟩ := hw
          obtain ⟨x26, rfl⟩ : ∃ q, q = r := ⟨_, rfl⟩
          have h27 := hrs
          refine lv_icmp_ge (tgt := 34) hx hb dX9_isRing_29 (by decide) (fun c28 => ?_) (fun c28 => ?_)
          · have kc28 := c_le c28
            exact j34 H locs ls (by omega) (by omega) hP hD hS (lv_sub hl [0, 1, 2] rfl)
          · have kc28 := c_nle c28
            refine lv_iconst (v := 0) hx hb dX9_isRing_32 (by decide) ?_
            have ttl_0 := tl_0
            exact tI hx hb hr hlk rfl hP hS ⟨(Or.inr rfl), rfl⟩ dX9_isRing_33
        · refine lv_if_eq (tgt := 34) hx hb dX9_isRing_15 (by decide) (fun _ => ?_) (fun c => absurd (by decide) c)
          exact j34 H locs ls (by omega) (by omega) hP hD hS (lv_sub hl [0, 1, 2] rfl)
  refine lv_iconst (v := 0) hx hb dX9_isRing_0 (by decide) ?_
  refine lv_istore_n (lv' := [(2, .int 0), (0, .ref (ad 148)), (1, .int p1)]) hx hb dX9_isRing_1 rfl hl (by decide) rfl (fun ls hl => ?_)
  have ttl_0 := tl_0
  exact j2 (Int.toNat (11 - (0 : Int32).toInt)) H locs ls (0 : Int32) (by omega) (by omega) (by omega) hP hD hS (lv_sub hl [0, 1, 2] rfl)
set_option maxHeartbeats 4000000 in
set_option maxRecDepth 100000 in
theorem s_X9_ring_0 (l : Launch) (B0 : Nat) (adK adV : Nat → Nat) (D : va_G) (cy : Nat → ClassId) (ad : Nat → Nat) (fr0 : Nat → va_E) (c_text : Nat → Int32) (m_taped : Int32) (m_size : Int32) (m_faultKind : Int32) (m_faultPlace : Int32) (m_at : Int32) (m_end : Int32) (m_token : Int32) (m_number : Int32) (m_name : Int64) (c_points : Nat → Int32) (c_strands : Nat → Int32) (c_units : Nat → Int32) (c_told : Nat → Int32) (c_ruleFrom : Nat → Int32) (c_ruleTo : Nat → Int32) (c_code : Nat → Int32) (c_eWhat : Nat → Int32) (c_eSign : Nat → Int32) (m_bank : Int32) (m_rb : Int32) (m_codes : Int32) (m_within : Int32) (m_piled : Int32) (m_unitsInRule : Int32) (m_askStrand : Int32) (m_askTied : Int32) (m_thoughtClaim : Int32) (m_thoughtNeed : Int32) (m_thoughtAll : Int32) (c_roundOf : Nat → Int32) (m_acts : Int32) (m_undone : Int32) (m_laid : Int32) (m_firstMove : Int32) (m_seens : Int32) (m_time : Int32) (m_waysNow : Int32) (m_fitting : Int32) (f : Nat → va_E) (hT : TYm ad cy fr0 c_text m_taped m_size m_faultKind m_faultPlace m_at m_end m_token m_number m_name c_points c_strands c_units c_told c_ruleFrom c_ruleTo c_code c_eWhat c_eSign m_bank m_rb m_codes m_within m_piled m_unitsInRule m_askStrand m_askTied m_thoughtClaim m_thoughtNeed m_thoughtAll c_roundOf m_acts m_undone m_laid m_firstMove m_seens m_time m_waysNow m_fitting f) (p1 : Int32) (hCV : CVp c_told c_ruleFrom c_ruleTo c_code m_bank) (sz : Nat) : TtI l yX9_ring wsX9_ring 5 112 [.ref (ad 148), .int p1] B0 adK adV D cy ad f sz (fun (r : Int32) (g : Nat → va_E) => (-1 ≤ r.toInt ∧ r.toInt ≤ 4095) ∧ (∃ (m_askStrand' : Int32) (m_askTied' : Int32), TYm ad cy fr0 c_text m_taped m_size m_faultKind m_faultPlace m_at m_end m_token m_number m_name c_points c_strands c_units c_told c_ruleFrom c_ruleTo c_code c_eWhat c_eSign m_bank m_rb m_codes m_within m_piled m_unitsInRule m_askStrand' m_askTied' m_thoughtClaim m_thoughtNeed m_thoughtAll c_roundOf m_acts m_undone m_laid m_firstMove m_seens m_time m_waysNow m_fitting g)) := by
  refine TtI.of (cc := cX9_ring) (maxL := 4) (ty := .int) (own := RX9) (by decide) rfl (Nat.le_of_ble_eq_true rfl) rfl ?_
  intro p e s m below meth c A ls hx hb hr hml hts hown hlk hK hE hP hD hS hA hAB hl
  have hl : lv_has ls 4 [(0, .ref (ad 148)), (1, .int p1)] := hl
  refine st0 (fun H locs hP hS => ?_) hP hS
  have j25 : ∀ (N : Nat) (f : Nat → va_E) (H : Heap) (locs : List Loc) (ls : Array Slot) (v25_l3 : Int32) (v25_l2 : Int32) (v25_p_m_askStrand : Int32) (v25_p_m_askTied : Int32), (1600 - v25_l3.toInt ≤ (N : Int)) → (1 ≤ v25_l3.toInt ∧ v25_l3.toInt ≤ 1599) → (-1 ≤ v25_l2.toInt ∧ v25_l2.toInt ≤ 1120) → (0 ≤ p1.toInt ∧ p1.toInt ≤ 1) → (0 ≤ v25_p_m_askTied.toInt ∧ v25_p_m_askTied.toInt ≤ 4095) → (TYm ad cy fr0 c_text m_taped m_size m_faultKind m_faultPlace m_at m_end m_token m_number m_name c_points c_strands c_units c_told c_ruleFrom c_ruleTo c_code c_eWhat c_eSign m_bank m_rb m_codes m_within m_piled m_unitsInRule v25_p_m_askStrand v25_p_m_askTied m_thoughtClaim m_thoughtNeed m_thoughtAll c_roundOf m_acts m_undone m_laid m_firstMove m_seens m_time m_waysNow m_fitting f) → (va_P D vwCl (wl ad f) H) → (va_D A (wl ad f)) → (va_S A s.heap H locs) → (lv_has ls 4 [(3, .int v25_l3), (2, .int v25_l2), (0, .ref (ad 148)), (1, .int p1)]) → W p l e (rmO 5 112 0 0) s m ([.ref (ad 148), .int p1] : List Value).toArray below meth c H locs 0 0 (MQ below (va_Qi (fun (r : Int32) (g : Nat → va_E) => (-1 ≤ r.toInt ∧ r.toInt ≤ 4095) ∧ (∃ (m_askStrand' : Int32) (m_askTied' : Int32), TYm ad cy fr0 c_text m_taped m_size m_faultKind m_faultPlace m_at m_end m_token m_number m_name c_points c_strands c_units c_told c_ruleFrom c_ruleTo c_code c_eWhat c_eSign m_bank m_rb m_codes m_within m_piled m_unitsInRule m_askStrand' m_askTied' m_thoughtClaim m_thoughtNeed m_thoughtAll c_roundOf m_acts m_undone m_laid m_firstMove m_seens m_time m_waysNow m_fitting g)) (fun g t => PstT D ad g t) A) ([.ref (ad 148), .int p1] : List Value).toArray s 0 0 A) (F0 m 25 ls []) := by
    intro N
    induction N with
    | zero => intro f H locs ls v25_l3 v25_l2 v25_p_m_askStrand v25_p_m_askTied hN hv25_l3 hv25_l2 hv25_l1 hv25_p_m_askTied hT hP hD hS hl; exact absurd hN (by omega)
    | succ N ih25 =>
      intro f H locs ls v25_l3 v25_l2 v25_p_m_askStrand v25_p_m_askTied hN hv25_l3 hv25_l2 hv25_l1 hv25_p_m_askTied hT hP hD hS hl
      have j62 : ∀ (f : Nat → va_E) (H : Heap) (locs : List Loc) (ls : Array Slot) (v62_l2 : Int32), (1 ≤ v25_l3.toInt ∧ v25_l3.toInt ≤ 1023) → (-1 ≤ v62_l2.toInt ∧ v62_l2.toInt ≤ 1120) → (0 ≤ p1.toInt ∧ p1.toInt ≤ 1) → (0 ≤ v25_p_m_askTied.toInt ∧ v25_p_m_askTied.toInt ≤ 4095) → (TYm ad cy fr0 c_text m_taped m_size m_faultKind m_faultPlace m_at m_end m_token m_number m_name c_points c_strands c_units c_told c_ruleFrom c_ruleTo c_code c_eWhat c_eSign m_bank m_rb m_codes m_within m_piled m_unitsInRule v25_p_m_askStrand v25_p_m_askTied m_thoughtClaim m_thoughtNeed m_thoughtAll c_roundOf m_acts m_undone m_laid m_firstMove m_seens m_time m_waysNow m_fitting f) → (va_P D vwCl (wl ad f) H) → (va_D A (wl ad f)) → (va_S A s.heap H locs) → (lv_has ls 4 [(3, .int v25_l3), (2, .int v62_l2), (0, .ref (ad 148)), (1, .int p1)]) → W p l e (rmO 5 112 0 0) s m ([.ref (ad 148), .int p1] : List Value).toArray below meth c H locs 0 0 (MQ below (va_Qi (fun (r : Int32) (g : Nat → va_E) => (-1 ≤ r.toInt ∧ r.toInt ≤ 4095) ∧ (∃ (m_askStrand' : Int32) (m_askTied' : Int32), TYm ad cy fr0 c_text m_taped m_size m_faultKind m_faultPlace m_at m_end m_token m_number m_name c_points c_strands c_units c_told c_ruleFrom c_ruleTo c_code c_eWhat c_eSign m_bank m_rb m_codes m_within m_piled m_unitsInRule m_askStrand' m_askTied' m_thoughtClaim m_thoughtNeed m_thoughtAll c_roundOf m_acts m_undone m_laid m_firstMove m_seens m_time m_waysNow m_fitting g)) (fun g t => PstT D ad g t) A) ([.ref (ad 148), .int p1] : List Value).toArray s 0 0 A) (F0 m 62 ls []) := by
        intro f H locs ls v62_l2 hv62_l3 hv62_l2 hv62_l1 hv62_p_m_askTied hT hP hD hS hl
        obtain ⟨x1, ex1⟩ : ∃ q : Int32, q = v25_l3 + Int32.ofInt (1) := ⟨_, rfl⟩
        refine lv_iinc (v := x1) (lv' := [(3, .int x1), (2, .int v62_l2), (0, .ref (ad 148)), (1, .int p1)]) hx hb dX9_ring_62 hl (k := 0) rfl ex1.symm (by decide) rfl (fun ls hl => ?_)
        have hx1 := r_inc ex1 (by decide) (by omega) (by omega)
        refine lv_goto (tgt := 25) hx hb dX9_ring_65 (by decide) ?_
        exact ih25 f H locs ls x1 v62_l2 v25_p_m_askStrand v25_p_m_askTied (by omega) (by omega) (by omega) (by omega) (by omega) hT hP hD hS (lv_sub hl [0, 1, 2, 3] rfl)
      refine lv_iload_n hx hb dX9_ring_25 rfl (lv_at hl 0 rfl) ?_
      refine lv_aload_n hx hb dX9_ring_26 rfl (lv_at hl 2 rfl) ?_
      obtain ⟨e17, h2, h3, h4, h5, h6, h7, h8, h9, h10, h11, h12, h13, h14, h15, h16⟩ := (show okX9 ad m_taped m_size m_faultKind m_faultPlace m_at m_end m_token m_number m_name m_bank m_rb m_codes m_within m_piled m_unitsInRule v25_p_m_askStrand v25_p_m_askTied m_thoughtClaim m_thoughtNeed m_thoughtAll m_acts m_undone m_laid m_firstMove m_seens m_time m_waysNow m_fitting 148 (f 148) from hT.1 148 (by decide))
      refine tVI (As := []) (rest := [.int v25_l3]) (i := 148) ⟨hx, hb, hml, hown, hts⟩ hK hE hP hD hS hA hAB (s_X9_claims_0 l B0 adK adV D cy ad fr0 c_text m_taped m_size m_faultKind m_faultPlace m_at m_end m_token m_number m_name c_points c_strands c_units c_told c_ruleFrom c_ruleTo c_code c_eWhat c_eSign m_bank m_rb m_codes m_within m_piled m_unitsInRule v25_p_m_askStrand v25_p_m_askTied m_thoughtClaim m_thoughtNeed m_thoughtAll c_roundOf m_acts m_undone m_laid m_firstMove m_seens m_time m_waysNow m_fitting f hT _) (cwV 0 hts gX9_ring_X9_claims rfl rfl rfl (by decide +kernel) ⟨Nat.le_of_ble_eq_true rfl, Nat.le_of_ble_eq_true rfl⟩) (by decide) 9 e17 rfl rfl hl.1 rfl (Nat.le_of_ble_eq_true rfl) dX9_ring_27 ⟨Nat.le_of_ble_eq_true rfl, Nat.le_of_ble_eq_true rfl⟩ (fun r g H locs hw hP hD hS => ?_)
      obtain ⟨hrs, rfl⟩ := hw
      obtain ⟨x18, rfl⟩ : ∃ q, q = r := ⟨_, rfl⟩
      have h19 := hrs
      refine lv_icmp_gt (tgt := 68) hx hb dX9_ring_30 (by decide) (fun c20 => ?_) (fun c20 => ?_)
      · have kc20 := c_lt c20
        refine lv_iload_n hx hb dX9_ring_68 rfl (lv_at hl 1 rfl) ?_
        refine lv_iload_n hx hb dX9_ring_69 rfl (lv_at hl 3 rfl) ?_
        refine tSI (As := [.int v25_l2, .int p1]) (rest := []) ⟨hx, hb, hml, hown, hts⟩ hK hE hP hD hS hA hAB (s_X9_toldOf_0 l B0 adK adV D cy ad f v25_l2 (by omega) p1 (by omega) _) (va_cwS 2 hts gX9_ring_X9_toldOf rfl rfl rfl (by decide +kernel) ⟨Nat.le_of_ble_eq_true rfl, Nat.le_of_ble_eq_true rfl⟩) rfl hl.1 rfl (Nat.le_of_ble_eq_true rfl) dX9_ring_70 ⟨Nat.le_of_ble_eq_true rfl, Nat.le_of_ble_eq_true rfl⟩ (fun r g H locs hw hP hD hS => ?_)
        obtain ⟨hrs, rfl⟩ := hw
        obtain ⟨x21, rfl⟩ : ∃ q, q = r := ⟨_, rfl⟩
        have h22 := hrs
        exact tI hx hb hr hlk rfl hP hS ⟨(by omega), ⟨v25_p_m_askStrand, v25_p_m_askTied, hT⟩⟩ dX9_ring_73
      · have kc20 := c_nlt c20
        refine lv_iload_n hx hb dX9_ring_33 rfl (lv_at hl 0 rfl) ?_
        refine lv_aload_n hx hb dX9_ring_34 rfl (lv_at hl 2 rfl) ?_
        refine tVI (As := []) (rest := [.int v25_l3]) (i := 148) ⟨hx, hb, hml, hown, hts⟩ hK hE hP hD hS hA hAB (s_X9_claims_0 l B0 adK adV D cy ad fr0 c_text m_taped m_size m_faultKind m_faultPlace m_at m_end m_token m_number m_name c_points c_strands c_units c_told c_ruleFrom c_ruleTo c_code c_eWhat c_eSign m_bank m_rb m_codes m_within m_piled m_unitsInRule v25_p_m_askStrand v25_p_m_askTied m_thoughtClaim m_thoughtNeed m_thoughtAll c_roundOf m_acts m_undone m_laid m_firstMove m_seens m_time m_waysNow m_fitting f hT _) (cwV 0 hts gX9_ring_X9_claims rfl rfl rfl (by decide +kernel) ⟨Nat.le_of_ble_eq_true rfl, Nat.le_of_ble_eq_true rfl⟩) (by decide) 9 e17 rfl rfl hl.1 rfl (Nat.le_of_ble_eq_true rfl) dX9_ring_35 ⟨Nat.le_of_ble_eq_true rfl, Nat.le_of_ble_eq_true rfl⟩ (fun r g H locs hw hP hD hS => ?_)
        obtain ⟨hrs, rfl⟩ := hw
        obtain ⟨x23, rfl⟩ : ∃ q, q = r := ⟨_, rfl⟩
        have h24 := hrs
        refine lv_iconst (v := (-1)) hx hb dX9_ring_38 (by decide) ?_
        refine lv_ixor hx hb dX9_ring_39 ?_
        refine lv_topi (fun x25 ex25 => ?_)
        refine lv_iand hx hb dX9_ring_40 ?_
        refine lv_topi (fun x26 ex26 => ?_)
        have hx26 := r_andl ex26 (by omega)
        have ttl_0 := tl_0
        refine lv_if_ne (tgt := 62) hx hb dX9_ring_41 (by decide) (fun c27 => ?_) (fun c27 => ?_)
        · have kc27 := c_ne c27
          exact j62 f H locs ls v25_l2 (by omega) (by omega) (by omega) (by omega) hT hP hD hS (lv_sub hl [0, 1, 2, 3] rfl)
        · have kc27 := c_eq c27
          refine lv_iload_n hx hb dX9_ring_44 rfl (lv_at hl 0 rfl) ?_
          refine lv_iload_n hx hb dX9_ring_45 rfl (lv_at hl 1 rfl) ?_
          refine tSI (As := [.int v25_l3, .int v25_l2]) (rest := []) ⟨hx, hb, hml, hown, hts⟩ hK hE hP hD hS hA hAB (s_X9_isLess_0 l B0 adK adV D cy ad f v25_l3 (by omega) v25_l2 (by omega) _) (va_cwS 2 hts gX9_ring_X9_isLess rfl rfl rfl (by decide +kernel) ⟨Nat.le_of_ble_eq_true rfl, Nat.le_of_ble_eq_true rfl⟩) rfl hl.1 rfl (Nat.le_of_ble_eq_true rfl) dX9_ring_46 ⟨Nat.le_of_ble_eq_true rfl, Nat.le_of_ble_eq_true rfl⟩ (fun r g H locs hw hP hD hS => ?_)
          obtain ⟨hrs, rfl⟩ := hw
          obtain ⟨x28, rfl⟩ : ∃ q, q = r := ⟨_, rfl⟩
          rcases hrs with rfl | rfl
          · refine lv_if_eq (tgt := 62) hx hb dX9_ring_49 (by decide) (fun c => absurd c (by decide)) (fun _ => ?_)
            refine lv_aload_n hx hb dX9_ring_52 rfl (lv_at hl 2 rfl) ?_
            refine lv_iload_n hx hb dX9_ring_53 rfl (lv_at hl 0 rfl) ?_
            refine tVI (As := [.int v25_l3]) (rest := []) (i := 148) ⟨hx, hb, hml, hown, hts⟩ hK hE hP hD hS hA hAB (s_X9_isRing_0 l B0 adK adV D cy ad fr0 c_text m_taped m_size m_faultKind m_faultPlace m_at m_end m_token m_number m_name c_points c_strands c_units c_told c_ruleFrom c_ruleTo c_code c_eWhat c_eSign m_bank m_rb m_codes m_within m_piled m_unitsInRule v25_p_m_askStrand v25_p_m_askTied m_thoughtClaim m_thoughtNeed m_thoughtAll c_roundOf m_acts m_undone m_laid m_firstMove m_seens m_time m_waysNow m_fitting f hT v25_l3 (by omega) _) (cwV 1 hts gX9_ring_X9_isRing rfl rfl rfl (by decide +kernel) ⟨Nat.le_of_ble_eq_true rfl, Nat.le_of_ble_eq_true rfl⟩) (by decide) 9 e17 rfl rfl hl.1 rfl (Nat.le_of_ble_eq_true rfl) dX9_ring_54 ⟨Nat.le_of_ble_eq_true rfl, Nat.le_of_ble_eq_true rfl⟩ (fun r g H locs hw hP hD hS => ?_)
            obtain ⟨hrs, rfl⟩ := hw
            obtain ⟨x29, rfl⟩ : ∃ q, q = r := ⟨_, rfl⟩
            rcases hrs with rfl | rfl
            · refine lv_if_eq (tgt := 62) hx hb dX9_ring_57 (by decide) (fun c => absurd c (by decide)) (fun _ => ?_)
              refine lv_iload_n hx hb dX9_ring_60 rfl (lv_at hl 0 rfl) ?_
              refine lv_istore_n (lv' := [(2, .int v25_l3), (3, .int v25_l3), (0, .ref (ad 148)), (1, .int p1)]) hx hb dX9_ring_61 rfl hl (by decide) rfl (fun ls hl => ?_)
              exact j62 f H locs ls v25_l3 (by omega) (by omega) (by omega) (by omega) hT hP hD hS (lv_sub hl [1, 0, 2, 3] rfl)
            · refine lv_if_eq (tgt := 62) hx hb dX9_ring_57 (by decide) (fun _ => ?_) (fun c => absurd (by decide) c)
              exact j62 f H locs ls v25_l2 (by omega) (by omega) (by omega) (by omega) hT hP hD hS (lv_sub hl [0, 1, 2, 3] rfl)
          · refine lv_if_eq (tgt := 62) hx hb dX9_ring_49 (by decide) (fun _ => ?_) (fun c => absurd (by decide) c)
            exact j62 f H locs ls v25_l2 (by omega) (by omega) (by omega) (by omega) hT hP hD hS (lv_sub hl [0, 1, 2, 3] rfl)
  refine lv_iload_n hx hb dX9_ring_0 rfl (lv_at hl 1 rfl) ?_
  refine lv_iconst (v := 0) hx hb dX9_ring_1 (by decide) ?_
  refine lv_iconst (v := 1) hx hb dX9_ring_2 (by decide) ?_
  have ttl_0 := tl_0
  have ttl_1 := tl_1
  refine tSI (As := [.int p1, .int 0, .int 1]) (rest := []) ⟨hx, hb, hml, hown, hts⟩ hK hE hP hD hS hA hAB (s_X9_isIn_0 l B0 adK adV D cy ad f p1 (0 : Int32) (by omega) (1 : Int32) (by omega) _) (va_cwS 3 hts gX9_ring_X9_isIn rfl rfl rfl (by decide +kernel) ⟨Nat.le_of_ble_eq_true rfl, Nat.le_of_ble_eq_true rfl⟩) rfl hl.1 rfl (Nat.le_of_ble_eq_true rfl) dX9_ring_3 ⟨Nat.le_of_ble_eq_true rfl, Nat.le_of_ble_eq_true rfl⟩ (fun r g H locs hw hP hD hS => ?_)
  obtain ⟨hrs, rfl⟩ := hw
  obtain ⟨x30, rfl⟩ : ∃ q, q = r := ⟨_, rfl⟩
  rcases hrs with ⟨rfl, h31, h32⟩ | rfl
  · refine lv_if_ne (tgt := 11) hx hb dX9_ring_6 (by decide) (fun _ => ?_) (fun c => absurd c (by decide))
    refine lv_aload_n hx hb dX9_ring_11 rfl (lv_at hl 0 rfl) ?_
    refine lv_aload_n hx hb dX9_ring_12 rfl (lv_at hl 0 rfl) ?_
    obtain ⟨e48, h33, h34, h35, h36, h37, h38, h39, h40, h41, h42, h43, h44, h45, h46, h47⟩ := (show okX9 ad m_taped m_size m_faultKind m_faultPlace m_at m_end m_token m_number m_name m_bank m_rb m_codes m_within m_piled m_unitsInRule m_askStrand m_askTied m_thoughtClaim m_thoughtNeed m_thoughtAll m_acts m_undone m_laid m_firstMove m_seens m_time m_waysNow m_fitting 148 (f 148) from hT.1 148 (by decide))
    refine va_get (D := D) (cl := vwCl) (ci := 9) (v := .ref (ad 169)) (C := RX9) (T := TX9) (N := 64) hx hb hts in_X9_ring_X9 hown hK hP 148 (wl_at (by decide) e48) rfl 37 (by decide) (hts (.fieldLink RX9 76 "EightReasonsModel" "all" "[I") (List.mem_of_getElem? (i := 1) rfl)) (fun _ h9 => h9) rfl dX9_ring_13 ?_
    refine lv_iconst (v := 1) hx hb dX9_ring_16 (by decide) ?_
    obtain ⟨g51, e49, h50⟩ := (show okIr cy 16 (0) (4095) 16 1 (f 169) from hT.1 169 (by decide))
    refine va_iald hx hb hK hP 169 0 (wl_at (by decide) e49) rfl (vin (by decide)) dX9_ring_17 ?_
    refine lv_topi (fun x52 ex52 => ?_)
    have hx52 := r_el (h50 _ (by decide)) ex52
    refine tVV (As := [.int x52]) (rest := []) (i := 148) ⟨hx, hb, hml, hown, hts⟩ hK hE hP hD hS hA hAB (s_X9_layWeights_0 l B0 adK adV D cy ad fr0 c_text m_taped m_size m_faultKind m_faultPlace m_at m_end m_token m_number m_name c_points c_strands c_units c_told c_ruleFrom c_ruleTo c_code c_eWhat c_eSign m_bank m_rb m_codes m_within m_piled m_unitsInRule m_askStrand m_askTied m_thoughtClaim m_thoughtNeed m_thoughtAll c_roundOf m_acts m_undone m_laid m_firstMove m_seens m_time m_waysNow m_fitting f hT x52 (by omega) hCV _) (cwV 1 hts gX9_ring_X9_layWeights rfl rfl rfl (by decide +kernel) ⟨Nat.le_of_ble_eq_true rfl, Nat.le_of_ble_eq_true rfl⟩) (by decide) 9 e48 rfl rfl hl.1 rfl (Nat.le_of_ble_eq_true rfl) dX9_ring_18 ⟨Nat.le_of_ble_eq_true rfl, Nat.le_of_ble_eq_true rfl⟩ (fun f H locs hw hP hD hS => ?_)
    obtain ⟨hrs, x53, x54, hT, h55⟩ := hw
    refine lv_iconst (v := (-1)) hx hb dX9_ring_21 (by decide) ?_
    refine lv_istore_n (lv' := [(2, .int (-1)), (0, .ref (ad 148)), (1, .int p1)]) hx hb dX9_ring_22 rfl hl (by decide) rfl (fun ls hl => ?_)
    refine lv_iconst (v := 1) hx hb dX9_ring_23 (by decide) ?_
    refine lv_istore_n (lv' := [(3, .int 1), (2, .int (-1)), (0, .ref (ad 148)), (1, .int p1)]) hx hb dX9_ring_24 rfl hl (by decide) rfl (fun ls hl => ?_)
    have ttl_m1 := tl_m1
    exact j25 (Int.toNat (1600 - (1 : Int32).toInt)) f H locs ls (1 : Int32) ((-1) : Int32) x53 x54 (by omega) (by omega) (by omega) (by omega) (by omega) hT hP hD hS (lv_sub hl [0, 1, 2, 3] rfl)
  · refine lv_if_ne (tgt := 11) hx hb dX9_ring_6 (by decide) (fun c => absurd (by decide) c) (fun _ => ?_)
    refine lv_iconst (v := (-1)) hx hb dX9_ring_9 (by decide) ?_
    have ttl_m1 := tl_m1
    exact tI hx hb hr hlk rfl hP hS ⟨(by omega), ⟨m_askStrand, m_askTied, hT⟩⟩ dX9_ring_10
set_option maxHeartbeats 4000000 in
set_option maxRecDepth 100000 in
theorem s_X9_afterMove_0 (l : Launch) (B0 : Nat) (adK adV : Nat → Nat) (D : va_G) (cy : Nat → ClassId) (ad : Nat → Nat) (fr0 : Nat → va_E) (c_text : Nat → Int32) (m_taped : Int32) (m_size : Int32) (m_faultKind : Int32) (m_faultPlace : Int32) (m_at : Int32) (m_end : Int32) (m_token : Int32) (m_number : Int32) (m_name : Int64) (c_points : Nat → Int32) (c_strands : Nat → Int32) (c_units : Nat → Int32) (c_told : Nat → Int32) (c_ruleFrom : Nat → Int32) (c_ruleTo : Nat → Int32) (c_code : Nat → Int32) (c_eWhat : Nat → Int32) (c_eSign : Nat → Int32) (m_bank : Int32) (m_rb : Int32) (m_codes : Int32) (m_within : Int32) (m_piled : Int32) (m_unitsInRule : Int32) (m_askStrand : Int32) (m_askTied : Int32) (m_thoughtClaim : Int32) (m_thoughtNeed : Int32) (m_thoughtAll : Int32) (c_roundOf : Nat → Int32) (m_acts : Int32) (m_undone : Int32) (m_laid : Int32) (m_firstMove : Int32) (m_seens : Int32) (m_time : Int32) (m_waysNow : Int32) (m_fitting : Int32) (f : Nat → va_E) (hT : TYm ad cy fr0 c_text m_taped m_size m_faultKind m_faultPlace m_at m_end m_token m_number m_name c_points c_strands c_units c_told c_ruleFrom c_ruleTo c_code c_eWhat c_eSign m_bank m_rb m_codes m_within m_piled m_unitsInRule m_askStrand m_askTied m_thoughtClaim m_thoughtNeed m_thoughtAll c_roundOf m_acts m_undone m_laid m_firstMove m_seens m_time m_waysNow m_fitting f) (p1 : Int32) (hp1 : 0 ≤ p1.toInt ∧ p1.toInt ≤ 4095) (p2 : Int32) (hp2 : -1 ≤ p2.toInt ∧ p2.toInt ≤ 11) (sz : Nat) : TtI l yX9_afterMove wsX9_afterMove 0 0 [.ref (ad 148), .int p1, .int p2] B0 adK adV D cy ad f sz (fun (r : Int32) (g : Nat → va_E) => (0 ≤ r.toInt ∧ r.toInt ≤ 4095) ∧ (f = g)) := by
  refine TtI.of (cc := cX9_afterMove) (maxL := 3) (ty := .int) (own := RX9) (by decide) rfl (Nat.le_of_ble_eq_true rfl) rfl ?_
  intro p e s m below meth c A ls hx hb hr hml hts hown hlk hK hE hP hD hS hA hAB hl
  have hl : lv_has ls 3 [(0, .ref (ad 148)), (1, .int p1), (2, .int p2)] := hl
  refine st0 (fun H locs hP hS => ?_) hP hS
  refine lv_iload_n hx hb dX9_afterMove_0 rfl (lv_at hl 2 rfl) ?_
  have ttl_0 := tl_0
  refine lv_if_ge (tgt := 8) hx hb dX9_afterMove_1 (by decide) (fun c1 => ?_) (fun c1 => ?_)
  · have kc1 := c_le c1
    refine lv_iload_n hx hb dX9_afterMove_8 rfl (lv_at hl 1 rfl) ?_
    refine lv_iconst (v := 1) hx hb dX9_afterMove_9 (by decide) ?_
    refine lv_iload_n hx hb dX9_afterMove_10 rfl (lv_at hl 2 rfl) ?_
    refine lv_ishl hx hb dX9_afterMove_11 ?_
    refine lv_topi (fun x2 ex2 => ?_)
    have hx2 := r_shl (K := 11) (M := 2048) ex2 (by decide) (by decide) (by omega) (by omega)
    refine lv_ixor hx hb dX9_afterMove_12 ?_
    refine lv_topi (fun x3 ex3 => ?_)
    have hx3 := r_xor (k := 12) (K := 4096) ex3 (by decide) (by decide) (by omega) (by omega) (by omega) (by omega)
    exact tI hx hb hr hlk rfl hP hS ⟨(by omega), rfl⟩ dX9_afterMove_13
  · have kc1 := c_nle c1
    refine lv_iload_n hx hb dX9_afterMove_4 rfl (lv_at hl 1 rfl) ?_
    refine lv_goto (tgt := 13) hx hb dX9_afterMove_5 (by decide) ?_
    exact tI hx hb hr hlk rfl hP hS ⟨(by omega), rfl⟩ dX9_afterMove_13
set_option maxHeartbeats 4000000 in
set_option maxRecDepth 100000 in
theorem s_X9_mootLast_0 (l : Launch) (B0 : Nat) (adK adV : Nat → Nat) (D : va_G) (cy : Nat → ClassId) (ad : Nat → Nat) (fr0 : Nat → va_E) (c_text : Nat → Int32) (m_taped : Int32) (m_size : Int32) (m_faultKind : Int32) (m_faultPlace : Int32) (m_at : Int32) (m_end : Int32) (m_token : Int32) (m_number : Int32) (m_name : Int64) (c_points : Nat → Int32) (c_strands : Nat → Int32) (c_units : Nat → Int32) (c_told : Nat → Int32) (c_ruleFrom : Nat → Int32) (c_ruleTo : Nat → Int32) (c_code : Nat → Int32) (c_eWhat : Nat → Int32) (c_eSign : Nat → Int32) (m_bank : Int32) (m_rb : Int32) (m_codes : Int32) (m_within : Int32) (m_piled : Int32) (m_unitsInRule : Int32) (m_askStrand : Int32) (m_askTied : Int32) (m_thoughtClaim : Int32) (m_thoughtNeed : Int32) (m_thoughtAll : Int32) (c_roundOf : Nat → Int32) (m_acts : Int32) (m_undone : Int32) (m_laid : Int32) (m_firstMove : Int32) (m_seens : Int32) (m_time : Int32) (m_waysNow : Int32) (m_fitting : Int32) (f : Nat → va_E) (hT : TYm ad cy fr0 c_text m_taped m_size m_faultKind m_faultPlace m_at m_end m_token m_number m_name c_points c_strands c_units c_told c_ruleFrom c_ruleTo c_code c_eWhat c_eSign m_bank m_rb m_codes m_within m_piled m_unitsInRule m_askStrand m_askTied m_thoughtClaim m_thoughtNeed m_thoughtAll c_roundOf m_acts m_undone m_laid m_firstMove m_seens m_time m_waysNow m_fitting f) (p1 : Int32) (hp1 : 0 ≤ p1.toInt ∧ p1.toInt ≤ 9) (p2 : Int32) (hp2 : 0 ≤ p2.toInt ∧ p2.toInt ≤ 4095) (p3 : Int32) (hp3 : 0 ≤ p3.toInt ∧ p3.toInt ≤ 1) (hCV : CVp c_told c_ruleFrom c_ruleTo c_code m_bank) (sz : Nat) : TtI l yX9_mootLast wsX9_mootLast 8 181 [.ref (ad 148), .int p1, .int p2, .int p3] B0 adK adV D cy ad f sz (fun (r : Int32) (g : Nat → va_E) => (-1 ≤ r.toInt ∧ r.toInt ≤ 2) ∧ (∃ (m_askStrand' : Int32) (m_askTied' : Int32) (c_roundOf' : Nat → Int32) (m_firstMove' : Int32), TYm ad cy fr0 c_text m_taped m_size m_faultKind m_faultPlace m_at m_end m_token m_number m_name c_points c_strands c_units c_told c_ruleFrom c_ruleTo c_code c_eWhat c_eSign m_bank m_rb m_codes m_within m_piled m_unitsInRule m_askStrand' m_askTied' m_thoughtClaim m_thoughtNeed m_thoughtAll c_roundOf' m_acts m_undone m_laid m_firstMove' m_seens m_time m_waysNow m_fitting g)) := by
  refine TtI.of (cc := cX9_mootLast) (maxL := 7) (ty := .int) (own := RX9) (by decide) rfl (Nat.le_of_ble_eq_true rfl) rfl ?_
  intro p e s m below meth c A ls hx hb hr hml hts hown hlk hK hE hP hD hS hA hAB hl
  have hl : lv_has ls 7 [(0, .ref (ad 148)), (1, .int p1), (2, .int p2), (3, .int p3)] := hl
  refine st0 (fun H locs hP hS => ?_) hP hS
  have j14 : ∀ (N : Nat) (f : Nat → va_E) (H : Heap) (locs : List Loc) (ls : Array Slot) (v14_l5 : Int32) (v14_l4 : Int32) (v14_p_m_askStrand : Int32) (v14_p_m_askTied : Int32) (v14_p_c_roundOf : Nat → Int32) (v14_p_m_firstMove : Int32), (13 - v14_l5.toInt ≤ (N : Int)) → (-1 ≤ v14_l5.toInt ∧ v14_l5.toInt ≤ 12) → (-1 ≤ v14_l4.toInt ∧ v14_l4.toInt ≤ 2) → (0 ≤ p1.toInt ∧ p1.toInt ≤ 9) → (0 ≤ p2.toInt ∧ p2.toInt ≤ 4095) → (0 ≤ p3.toInt ∧ p3.toInt ≤ 1) → (TYm ad cy fr0 c_text m_taped m_size m_faultKind m_faultPlace m_at m_end m_token m_number m_name c_points c_strands c_units c_told c_ruleFrom c_ruleTo c_code c_eWhat c_eSign m_bank m_rb m_codes m_within m_piled m_unitsInRule v14_p_m_askStrand v14_p_m_askTied m_thoughtClaim m_thoughtNeed m_thoughtAll v14_p_c_roundOf m_acts m_undone m_laid v14_p_m_firstMove m_seens m_time m_waysNow m_fitting f) → (va_P D vwCl (wl ad f) H) → (va_D A (wl ad f)) → (va_S A s.heap H locs) → (lv_has ls 7 [(5, .int v14_l5), (4, .int v14_l4), (0, .ref (ad 148)), (1, .int p1), (2, .int p2), (3, .int p3)]) → W p l e (rmO 8 181 0 0) s m ([.ref (ad 148), .int p1, .int p2, .int p3] : List Value).toArray below meth c H locs 0 0 (MQ below (va_Qi (fun (r : Int32) (g : Nat → va_E) => (-1 ≤ r.toInt ∧ r.toInt ≤ 2) ∧ (∃ (m_askStrand' : Int32) (m_askTied' : Int32) (c_roundOf' : Nat → Int32) (m_firstMove' : Int32), TYm ad cy fr0 c_text m_taped m_size m_faultKind m_faultPlace m_at m_end m_token m_number m_name c_points c_strands c_units c_told c_ruleFrom c_ruleTo c_code c_eWhat c_eSign m_bank m_rb m_codes m_within m_piled m_unitsInRule m_askStrand' m_askTied' m_thoughtClaim m_thoughtNeed m_thoughtAll c_roundOf' m_acts m_undone m_laid m_firstMove' m_seens m_time m_waysNow m_fitting g)) (fun g t => PstT D ad g t) A) ([.ref (ad 148), .int p1, .int p2, .int p3] : List Value).toArray s 0 0 A) (F0 m 14 ls []) := by
    intro N
    induction N with
    | zero => intro f H locs ls v14_l5 v14_l4 v14_p_m_askStrand v14_p_m_askTied v14_p_c_roundOf v14_p_m_firstMove hN hv14_l5 hv14_l4 hv14_l1 hv14_l2 hv14_l3 hT hP hD hS hl; exact absurd hN (by omega)
    | succ N ih14 =>
      intro f H locs ls v14_l5 v14_l4 v14_p_m_askStrand v14_p_m_askTied v14_p_c_roundOf v14_p_m_firstMove hN hv14_l5 hv14_l4 hv14_l1 hv14_l2 hv14_l3 hT hP hD hS hl
      have j79 : ∀ (f : Nat → va_E) (H : Heap) (locs : List Loc) (ls : Array Slot) (v79_l6 : Int32) (v79_l4 : Int32) (v79_p_m_askStrand : Int32) (v79_p_m_askTied : Int32) (v79_p_c_roundOf : Nat → Int32) (v79_p_m_firstMove : Int32), (0 ≤ v79_l6.toInt ∧ v79_l6.toInt ≤ 1) → (-1 ≤ v14_l5.toInt ∧ v14_l5.toInt ≤ 11) → (-1 ≤ v79_l4.toInt ∧ v79_l4.toInt ≤ 2) → (0 ≤ p1.toInt ∧ p1.toInt ≤ 9) → (0 ≤ p2.toInt ∧ p2.toInt ≤ 4095) → (0 ≤ p3.toInt ∧ p3.toInt ≤ 1) → (0 ≤ v79_p_m_askTied.toInt ∧ v79_p_m_askTied.toInt ≤ 4095) → (TYm ad cy fr0 c_text m_taped m_size m_faultKind m_faultPlace m_at m_end m_token m_number m_name c_points c_strands c_units c_told c_ruleFrom c_ruleTo c_code c_eWhat c_eSign m_bank m_rb m_codes m_within m_piled m_unitsInRule v79_p_m_askStrand v79_p_m_askTied m_thoughtClaim m_thoughtNeed m_thoughtAll v79_p_c_roundOf m_acts m_undone m_laid v79_p_m_firstMove m_seens m_time m_waysNow m_fitting f) → (va_P D vwCl (wl ad f) H) → (va_D A (wl ad f)) → (va_S A s.heap H locs) → (lv_has ls 7 [(6, .int v79_l6), (5, .int v14_l5), (4, .int v79_l4), (0, .ref (ad 148)), (1, .int p1), (2, .int p2), (3, .int p3)]) → W p l e (rmO 8 181 0 0) s m ([.ref (ad 148), .int p1, .int p2, .int p3] : List Value).toArray below meth c H locs 0 0 (MQ below (va_Qi (fun (r : Int32) (g : Nat → va_E) => (-1 ≤ r.toInt ∧ r.toInt ≤ 2) ∧ (∃ (m_askStrand' : Int32) (m_askTied' : Int32) (c_roundOf' : Nat → Int32) (m_firstMove' : Int32), TYm ad cy fr0 c_text m_taped m_size m_faultKind m_faultPlace m_at m_end m_token m_number m_name c_points c_strands c_units c_told c_ruleFrom c_ruleTo c_code c_eWhat c_eSign m_bank m_rb m_codes m_within m_piled m_unitsInRule m_askStrand' m_askTied' m_thoughtClaim m_thoughtNeed m_thoughtAll c_roundOf' m_acts m_undone m_laid m_firstMove' m_seens m_time m_waysNow m_fitting g)) (fun g t => PstT D ad g t) A) ([.ref (ad 148), .int p1, .int p2, .int p3] : List Value).toArray s 0 0 A) (F0 m 79 ls []) := by
        intro f H locs ls v79_l6 v79_l4 v79_p_m_askStrand v79_p_m_askTied v79_p_c_roundOf v79_p_m_firstMove hv79_l6 hv79_l5 hv79_l4 hv79_l1 hv79_l2 hv79_l3 hv79_p_m_askTied hT hP hD hS hl
        obtain ⟨x1, ex1⟩ : ∃ q : Int32, q = v14_l5 + Int32.ofInt (1) := ⟨_, rfl⟩
        refine lv_iinc (v := x1) (lv' := [(5, .int x1), (6, .int v79_l6), (4, .int v79_l4), (0, .ref (ad 148)), (1, .int p1), (2, .int p2), (3, .int p3)]) hx hb dX9_mootLast_79 hl (k := 1) rfl ex1.symm (by decide) rfl (fun ls hl => ?_)
        have hx1 := r_inc ex1 (by decide) (by omega) (by omega)
        refine lv_goto (tgt := 14) hx hb dX9_mootLast_82 (by decide) ?_
        exact ih14 f H locs ls x1 v79_l4 v79_p_m_askStrand v79_p_m_askTied v79_p_c_roundOf v79_p_m_firstMove (by omega) (by omega) (by omega) (by omega) (by omega) (by omega) hT hP hD hS (lv_sub hl [0, 2, 3, 4, 5, 6] rfl)
      have j69 : ∀ (f : Nat → va_E) (H : Heap) (locs : List Loc) (ls : Array Slot) (v69_l6 : Int32) (v69_p_m_askStrand : Int32) (v69_p_m_askTied : Int32) (v69_p_c_roundOf : Nat → Int32), (0 ≤ v69_l6.toInt ∧ v69_l6.toInt ≤ 1) → (-1 ≤ v14_l5.toInt ∧ v14_l5.toInt ≤ 11) → (-1 ≤ v14_l4.toInt ∧ v14_l4.toInt ≤ 2) → (0 ≤ p1.toInt ∧ p1.toInt ≤ 9) → (0 ≤ p2.toInt ∧ p2.toInt ≤ 4095) → (0 ≤ p3.toInt ∧ p3.toInt ≤ 1) → (0 ≤ v69_p_m_askTied.toInt ∧ v69_p_m_askTied.toInt ≤ 4095) → (TYm ad cy fr0 c_text m_taped m_size m_faultKind m_faultPlace m_at m_end m_token m_number m_name c_points c_strands c_units c_told c_ruleFrom c_ruleTo c_code c_eWhat c_eSign m_bank m_rb m_codes m_within m_piled m_unitsInRule v69_p_m_askStrand v69_p_m_askTied m_thoughtClaim m_thoughtNeed m_thoughtAll v69_p_c_roundOf m_acts m_undone m_laid v14_p_m_firstMove m_seens m_time m_waysNow m_fitting f) → (va_P D vwCl (wl ad f) H) → (va_D A (wl ad f)) → (va_S A s.heap H locs) → (lv_has ls 7 [(6, .int v69_l6), (5, .int v14_l5), (4, .int v14_l4), (0, .ref (ad 148)), (1, .int p1), (2, .int p2), (3, .int p3)]) → W p l e (rmO 8 181 0 0) s m ([.ref (ad 148), .int p1, .int p2, .int p3] : List Value).toArray below meth c H locs 0 0 (MQ below (va_Qi (fun (r : Int32) (g : Nat → va_E) => (-1 ≤ r.toInt ∧ r.toInt ≤ 2) ∧ (∃ (m_askStrand' : Int32) (m_askTied' : Int32) (c_roundOf' : Nat → Int32) (m_firstMove' : Int32), TYm ad cy fr0 c_text m_taped m_size m_faultKind m_faultPlace m_at m_end m_token m_number m_name c_points c_strands c_units c_told c_ruleFrom c_ruleTo c_code c_eWhat c_eSign m_bank m_rb m_codes m_within m_piled m_unitsInRule m_askStrand' m_askTied' m_thoughtClaim m_thoughtNeed m_thoughtAll c_roundOf' m_acts m_undone m_laid m_firstMove' m_seens m_time m_waysNow m_fitting g)) (fun g t => PstT D ad g t) A) ([.ref (ad 148), .int p1, .int p2, .int p3] : List Value).toArray s 0 0 A) (F0 m 69 ls []) := by
        intro f H locs ls v69_l6 v69_p_m_askStrand v69_p_m_askTied v69_p_c_roundOf hv69_l6 hv69_l5 hv69_l4 hv69_l1 hv69_l2 hv69_l3 hv69_p_m_askTied hT hP hD hS hl
        refine lv_iload hx hb dX9_mootLast_69 (lv_at hl 0 rfl) ?_
        refine lv_istore (lv' := [(4, .int v69_l6), (6, .int v69_l6), (5, .int v14_l5), (0, .ref (ad 148)), (1, .int p1), (2, .int p2), (3, .int p3)]) hx hb dX9_mootLast_71 hl (by decide) rfl (fun ls hl => ?_)
        refine lv_aload_n hx hb dX9_mootLast_73 rfl (lv_at hl 3 rfl) ?_
        refine lv_iload hx hb dX9_mootLast_74 (lv_at hl 2 rfl) ?_
        obtain ⟨e17, h2, h3, h4, h5, h6, h7, h8, h9, h10, h11, h12, h13, h14, h15, h16⟩ := (show okX9 ad m_taped m_size m_faultKind m_faultPlace m_at m_end m_token m_number m_name m_bank m_rb m_codes m_within m_piled m_unitsInRule v69_p_m_askStrand v69_p_m_askTied m_thoughtClaim m_thoughtNeed m_thoughtAll m_acts m_undone m_laid v14_p_m_firstMove m_seens m_time m_waysNow m_fitting 148 (f 148) from hT.1 148 (by decide))
        refine va_put (D := D) (cl := vwCl) (ci := 9) (v := .int v14_l5) (ty := tyX9 49) (C := RX9) (T := TX9) (N := 64) hx hb hts in_X9_mootLast_X9 tyX9 tyX9_ok nmX9 hown hK hP hD hS 148 (wl_at (by decide) e17) rfl 49 (by decide) (hts (.fieldLink RX9 464 "EightReasonsModel" "firstMove" "I") (List.mem_of_getElem? (i := 1) rfl)) (fun _ h9 => h9) rfl (tyX9_ok 49 (by decide)) rfl rfl (Nat.le_of_ble_eq_true rfl) dX9_mootLast_76 (fun H locs hP hD hS => ?_)
        obtain ⟨f, hT, hP, hD, e18, hj19⟩ := stU (by decide) (TYm.p148 hT (show OKm ad cy c_text m_taped m_size m_faultKind m_faultPlace m_at m_end m_token m_number m_name c_points c_strands c_units c_told c_ruleFrom c_ruleTo c_code c_eWhat c_eSign m_bank m_rb m_codes m_within m_piled m_unitsInRule v69_p_m_askStrand v69_p_m_askTied m_thoughtClaim m_thoughtNeed m_thoughtAll v69_p_c_roundOf m_acts m_undone m_laid v14_l5 m_seens m_time m_waysNow m_fitting 148 _ from (show okX9 ad m_taped m_size m_faultKind m_faultPlace m_at m_end m_token m_number m_name m_bank m_rb m_codes m_within m_piled m_unitsInRule v69_p_m_askStrand v69_p_m_askTied m_thoughtClaim m_thoughtNeed m_thoughtAll m_acts m_undone m_laid v14_l5 m_seens m_time m_waysNow m_fitting 148 _ from ⟨rfl, by omega, by omega, by omega, by omega, by omega, by omega, by omega, by omega, by omega, by omega, by omega, by omega, by omega, by omega, by omega⟩))) hP hD
        exact j79 f H locs ls v69_l6 v69_l6 v69_p_m_askStrand v69_p_m_askTied v69_p_c_roundOf v14_l5 (by omega) (by omega) (by omega) (by omega) (by omega) (by omega) (by omega) hT hP hD hS (lv_sub hl [1, 2, 0, 3, 4, 5, 6] rfl)
      have j43 : ∀ (f : Nat → va_E) (H : Heap) (locs : List Loc) (ls : Array Slot) (v43_s0 : Int32) (v43_p_m_askStrand : Int32) (v43_p_m_askTied : Int32) (v43_p_c_roundOf : Nat → Int32), (-1 ≤ v14_l5.toInt ∧ v14_l5.toInt ≤ 11) → (-1 ≤ v14_l4.toInt ∧ v14_l4.toInt ≤ 2) → (0 ≤ p1.toInt ∧ p1.toInt ≤ 9) → (0 ≤ p2.toInt ∧ p2.toInt ≤ 4095) → (0 ≤ p3.toInt ∧ p3.toInt ≤ 1) → (0 ≤ v43_s0.toInt ∧ v43_s0.toInt ≤ 1) → (0 ≤ v43_p_m_askTied.toInt ∧ v43_p_m_askTied.toInt ≤ 4095) → (TYm ad cy fr0 c_text m_taped m_size m_faultKind m_faultPlace m_at m_end m_token m_number m_name c_points c_strands c_units c_told c_ruleFrom c_ruleTo c_code c_eWhat c_eSign m_bank m_rb m_codes m_within m_piled m_unitsInRule v43_p_m_askStrand v43_p_m_askTied m_thoughtClaim m_thoughtNeed m_thoughtAll v43_p_c_roundOf m_acts m_undone m_laid v14_p_m_firstMove m_seens m_time m_waysNow m_fitting f) → (va_P D vwCl (wl ad f) H) → (va_D A (wl ad f)) → (va_S A s.heap H locs) → (lv_has ls 7 [(5, .int v14_l5), (4, .int v14_l4), (0, .ref (ad 148)), (1, .int p1), (2, .int p2), (3, .int p3)]) → W p l e (rmO 8 181 0 0) s m ([.ref (ad 148), .int p1, .int p2, .int p3] : List Value).toArray below meth c H locs 0 0 (MQ below (va_Qi (fun (r : Int32) (g : Nat → va_E) => (-1 ≤ r.toInt ∧ r.toInt ≤ 2) ∧ (∃ (m_askStrand' : Int32) (m_askTied' : Int32) (c_roundOf' : Nat → Int32) (m_firstMove' : Int32), TYm ad cy fr0 c_text m_taped m_size m_faultKind m_faultPlace m_at m_end m_token m_number m_name c_points c_strands c_units c_told c_ruleFrom c_ruleTo c_code c_eWhat c_eSign m_bank m_rb m_codes m_within m_piled m_unitsInRule m_askStrand' m_askTied' m_thoughtClaim m_thoughtNeed m_thoughtAll c_roundOf' m_acts m_undone m_laid m_firstMove' m_seens m_time m_waysNow m_fitting g)) (fun g t => PstT D ad g t) A) ([.ref (ad 148), .int p1, .int p2, .int p3] : List Value).toArray s 0 0 A) (F0 m 43 ls [.int v43_s0]) := by
        intro f H locs ls v43_s0 v43_p_m_askStrand v43_p_m_askTied v43_p_c_roundOf hv43_l5 hv43_l4 hv43_l1 hv43_l2 hv43_l3 hv43_s0 hv43_p_m_askTied hT hP hD hS hl
        refine lv_istore (lv' := [(6, .int v43_s0), (5, .int v14_l5), (4, .int v14_l4), (0, .ref (ad 148)), (1, .int p1), (2, .int p2), (3, .int p3)]) hx hb dX9_mootLast_43 hl (by decide) rfl (fun ls hl => ?_)
        refine lv_iload_n hx hb dX9_mootLast_45 rfl (lv_at hl 6 rfl) ?_
        have ttl_0 := tl_0
        refine lv_if_eq (tgt := 59) hx hb dX9_mootLast_46 (by decide) (fun c20 => ?_) (fun c20 => ?_)
        · have kc20 := c_eq c20
          refine lv_iload hx hb dX9_mootLast_59 (lv_at hl 0 rfl) ?_
          refine lv_iload hx hb dX9_mootLast_61 (lv_at hl 2 rfl) ?_
          refine lv_icmp_gt (tgt := 69) hx hb dX9_mootLast_63 (by decide) (fun c21 => ?_) (fun c21 => ?_)
          · have kc21 := c_lt c21
            exact j69 f H locs ls v43_s0 v43_p_m_askStrand v43_p_m_askTied v43_p_c_roundOf (by omega) (by omega) (by omega) (by omega) (by omega) (by omega) (by omega) hT hP hD hS (lv_sub hl [0, 1, 2, 3, 4, 5, 6] rfl)
          · have kc21 := c_nlt c21
            refine lv_goto (tgt := 79) hx hb dX9_mootLast_66 (by decide) ?_
            exact j79 f H locs ls v43_s0 v14_l4 v43_p_m_askStrand v43_p_m_askTied v43_p_c_roundOf v14_p_m_firstMove (by omega) (by omega) (by omega) (by omega) (by omega) (by omega) (by omega) hT hP hD hS (lv_sub hl [0, 1, 2, 3, 4, 5, 6] rfl)
        · have kc20 := c_ne c20
          refine lv_iload hx hb dX9_mootLast_49 (lv_at hl 0 rfl) ?_
          refine lv_iload hx hb dX9_mootLast_51 (lv_at hl 2 rfl) ?_
          refine lv_icmp_lt (tgt := 69) hx hb dX9_mootLast_53 (by decide) (fun c22 => ?_) (fun c22 => ?_)
          · have kc22 := c_lt c22
            exact j69 f H locs ls v43_s0 v43_p_m_askStrand v43_p_m_askTied v43_p_c_roundOf (by omega) (by omega) (by omega) (by omega) (by omega) (by omega) (by omega) hT hP hD hS (lv_sub hl [0, 1, 2, 3, 4, 5, 6] rfl)
          · have kc22 := c_nlt c22
            refine lv_goto (tgt := 79) hx hb dX9_mootLast_56 (by decide) ?_
            exact j79 f H locs ls v43_s0 v14_l4 v43_p_m_askStrand v43_p_m_askTied v43_p_c_roundOf v14_p_m_firstMove (by omega) (by omega) (by omega) (by omega) (by omega) (by omega) (by omega) hT hP hD hS (lv_sub hl [0, 1, 2, 3, 4, 5, 6] rfl)
      refine lv_iload hx hb dX9_mootLast_14 (lv_at hl 0 rfl) ?_
      refine lv_aload_n hx hb dX9_mootLast_16 rfl (lv_at hl 2 rfl) ?_
      obtain ⟨e38, h23, h24, h25, h26, h27, h28, h29, h30, h31, h32, h33, h34, h35, h36, h37⟩ := (show okX9 ad m_taped m_size m_faultKind m_faultPlace m_at m_end m_token m_number m_name m_bank m_rb m_codes m_within m_piled m_unitsInRule v14_p_m_askStrand v14_p_m_askTied m_thoughtClaim m_thoughtNeed m_thoughtAll m_acts m_undone m_laid v14_p_m_firstMove m_seens m_time m_waysNow m_fitting 148 (f 148) from hT.1 148 (by decide))
      refine tVI (As := []) (rest := [.int v14_l5]) (i := 148) ⟨hx, hb, hml, hown, hts⟩ hK hE hP hD hS hA hAB (s_X9_threads_0 l B0 adK adV D cy ad fr0 c_text m_taped m_size m_faultKind m_faultPlace m_at m_end m_token m_number m_name c_points c_strands c_units c_told c_ruleFrom c_ruleTo c_code c_eWhat c_eSign m_bank m_rb m_codes m_within m_piled m_unitsInRule v14_p_m_askStrand v14_p_m_askTied m_thoughtClaim m_thoughtNeed m_thoughtAll v14_p_c_roundOf m_acts m_undone m_laid v14_p_m_firstMove m_seens m_time m_waysNow m_fitting f hT _) (cwV 0 hts gX9_mootLast_X9_threads rfl rfl rfl (by decide +kernel) ⟨Nat.le_of_ble_eq_true rfl, Nat.le_of_ble_eq_true rfl⟩) (by decide) 9 e38 rfl rfl hl.1 rfl (Nat.le_of_ble_eq_true rfl) dX9_mootLast_17 ⟨Nat.le_of_ble_eq_true rfl, Nat.le_of_ble_eq_true rfl⟩ (fun r g H locs hw hP hD hS => ?_)
      obtain ⟨hrs, rfl⟩ := hw
      obtain ⟨x39, rfl⟩ : ∃ q, q = r := ⟨_, rfl⟩
      have h40 := hrs
      refine lv_icmp_ge (tgt := 85) hx hb dX9_mootLast_20 (by decide) (fun c41 => ?_) (fun c41 => ?_)
      · have kc41 := c_le c41
        refine lv_iload hx hb dX9_mootLast_85 (lv_at hl 1 rfl) ?_
        exact tI hx hb hr hlk rfl hP hS ⟨(by omega), ⟨v14_p_m_askStrand, v14_p_m_askTied, v14_p_c_roundOf, v14_p_m_firstMove, hT⟩⟩ dX9_mootLast_87
      · have kc41 := c_nle c41
        refine lv_aload_n hx hb dX9_mootLast_23 rfl (lv_at hl 2 rfl) ?_
        refine lv_iload_n hx hb dX9_mootLast_24 rfl (lv_at hl 3 rfl) ?_
        refine lv_aload_n hx hb dX9_mootLast_25 rfl (lv_at hl 2 rfl) ?_
        refine lv_iload_n hx hb dX9_mootLast_26 rfl (lv_at hl 4 rfl) ?_
        refine lv_iload hx hb dX9_mootLast_27 (lv_at hl 0 rfl) ?_
        refine tVI (As := [.int p2, .int v14_l5]) (rest := [.int p1, .ref (ad 148)]) (i := 148) ⟨hx, hb, hml, hown, hts⟩ hK hE hP hD hS hA hAB (s_X9_afterMove_0 l B0 adK adV D cy ad fr0 c_text m_taped m_size m_faultKind m_faultPlace m_at m_end m_token m_number m_name c_points c_strands c_units c_told c_ruleFrom c_ruleTo c_code c_eWhat c_eSign m_bank m_rb m_codes m_within m_piled m_unitsInRule v14_p_m_askStrand v14_p_m_askTied m_thoughtClaim m_thoughtNeed m_thoughtAll v14_p_c_roundOf m_acts m_undone m_laid v14_p_m_firstMove m_seens m_time m_waysNow m_fitting f hT p2 (by omega) v14_l5 (by omega) _) (cwV 2 hts gX9_mootLast_X9_afterMove rfl rfl rfl (by decide +kernel) ⟨Nat.le_of_ble_eq_true rfl, Nat.le_of_ble_eq_true rfl⟩) (by decide) 9 e38 rfl rfl hl.1 rfl (Nat.le_of_ble_eq_true rfl) dX9_mootLast_29 ⟨Nat.le_of_ble_eq_true rfl, Nat.le_of_ble_eq_true rfl⟩ (fun r g H locs hw hP hD hS => ?_)
        obtain ⟨hrs, rfl⟩ := hw
        obtain ⟨x42, rfl⟩ : ∃ q, q = r := ⟨_, rfl⟩
        have h43 := hrs
        refine tVI (As := [.int p1, .int x42]) (rest := []) (i := 148) ⟨hx, hb, hml, hown, hts⟩ hK hE hP hD hS hA hAB (s_X9_doesStand_0 l B0 adK adV D cy ad fr0 c_text m_taped m_size m_faultKind m_faultPlace m_at m_end m_token m_number m_name c_points c_strands c_units c_told c_ruleFrom c_ruleTo c_code c_eWhat c_eSign m_bank m_rb m_codes m_within m_piled m_unitsInRule v14_p_m_askStrand v14_p_m_askTied m_thoughtClaim m_thoughtNeed m_thoughtAll v14_p_c_roundOf m_acts m_undone m_laid v14_p_m_firstMove m_seens m_time m_waysNow m_fitting f hT p1 (by omega) x42 (by omega) hCV _) (cwV 2 hts gX9_mootLast_X9_doesStand rfl rfl rfl (by decide +kernel) ⟨Nat.le_of_ble_eq_true rfl, Nat.le_of_ble_eq_true rfl⟩) (by decide) 9 e38 rfl rfl hl.1 rfl (Nat.le_of_ble_eq_true rfl) dX9_mootLast_32 ⟨Nat.le_of_ble_eq_true rfl, Nat.le_of_ble_eq_true rfl⟩ (fun r f H locs hw hP hD hS => ?_)
        obtain ⟨hrs, x44, x45, y46, hT, h47⟩ := hw
        obtain ⟨x48, rfl⟩ : ∃ q, q = r := ⟨_, rfl⟩
        rcases hrs with rfl | rfl
        · refine lv_if_eq (tgt := 42) hx hb dX9_mootLast_35 (by decide) (fun c => absurd c (by decide)) (fun _ => ?_)
          refine lv_iconst (v := 1) hx hb dX9_mootLast_38 (by decide) ?_
          refine lv_goto (tgt := 43) hx hb dX9_mootLast_39 (by decide) ?_
          have ttl_1 := tl_1
          exact j43 f H locs ls (1 : Int32) x44 x45 y46 (by omega) (by omega) (by omega) (by omega) (by omega) (by omega) (by omega) hT hP hD hS (lv_sub hl [0, 1, 2, 3, 4, 5] rfl)
        · refine lv_if_eq (tgt := 42) hx hb dX9_mootLast_35 (by decide) (fun _ => ?_) (fun c => absurd (by decide) c)
          refine lv_iconst (v := 0) hx hb dX9_mootLast_42 (by decide) ?_
          have ttl_0 := tl_0
          exact j43 f H locs ls (0 : Int32) x44 x45 y46 (by omega) (by omega) (by omega) (by omega) (by omega) (by omega) (by omega) hT hP hD hS (lv_sub hl [0, 1, 2, 3, 4, 5] rfl)
  have j9 : ∀ (f : Nat → va_E) (H : Heap) (locs : List Loc) (ls : Array Slot) (v9_s0 : Int32), (0 ≤ p1.toInt ∧ p1.toInt ≤ 9) → (0 ≤ p2.toInt ∧ p2.toInt ≤ 4095) → (0 ≤ p3.toInt ∧ p3.toInt ≤ 1) → (-1 ≤ v9_s0.toInt ∧ v9_s0.toInt ≤ 2) → (TYm ad cy fr0 c_text m_taped m_size m_faultKind m_faultPlace m_at m_end m_token m_number m_name c_points c_strands c_units c_told c_ruleFrom c_ruleTo c_code c_eWhat c_eSign m_bank m_rb m_codes m_within m_piled m_unitsInRule m_askStrand m_askTied m_thoughtClaim m_thoughtNeed m_thoughtAll c_roundOf m_acts m_undone m_laid m_firstMove m_seens m_time m_waysNow m_fitting f) → (va_P D vwCl (wl ad f) H) → (va_D A (wl ad f)) → (va_S A s.heap H locs) → (lv_has ls 7 [(0, .ref (ad 148)), (1, .int p1), (2, .int p2), (3, .int p3)]) → W p l e (rmO 8 181 0 0) s m ([.ref (ad 148), .int p1, .int p2, .int p3] : List Value).toArray below meth c H locs 0 0 (MQ below (va_Qi (fun (r : Int32) (g : Nat → va_E) => (-1 ≤ r.toInt ∧ r.toInt ≤ 2) ∧ (∃ (m_askStrand' : Int32) (m_askTied' : Int32) (c_roundOf' : Nat → Int32) (m_firstMove' : Int32), TYm ad cy fr0 c_text m_taped m_size m_faultKind m_faultPlace m_at m_end m_token m_number m_name c_points c_strands c_units c_told c_ruleFrom c_ruleTo c_code c_eWhat c_eSign m_bank m_rb m_codes m_within m_piled m_unitsInRule m_askStrand' m_askTied' m_thoughtClaim m_thoughtNeed m_thoughtAll c_roundOf' m_acts m_undone m_laid m_firstMove' m_seens m_time m_waysNow m_fitting g)) (fun g t => PstT D ad g t) A) ([.ref (ad 148), .int p1, .int p2, .int p3] : List Value).toArray s 0 0 A) (F0 m 9 ls [.int v9_s0]) := by
    intro f H locs ls v9_s0 hv9_l1 hv9_l2 hv9_l3 hv9_s0 hT hP hD hS hl
    refine lv_istore (lv' := [(4, .int v9_s0), (0, .ref (ad 148)), (1, .int p1), (2, .int p2), (3, .int p3)]) hx hb dX9_mootLast_9 hl (by decide) rfl (fun ls hl => ?_)
    refine lv_iconst (v := (-1)) hx hb dX9_mootLast_11 (by decide) ?_
    refine lv_istore (lv' := [(5, .int (-1)), (4, .int v9_s0), (0, .ref (ad 148)), (1, .int p1), (2, .int p2), (3, .int p3)]) hx hb dX9_mootLast_12 hl (by decide) rfl (fun ls hl => ?_)
    have ttl_m1 := tl_m1
    exact j14 (Int.toNat (13 - ((-1) : Int32).toInt)) f H locs ls ((-1) : Int32) v9_s0 m_askStrand m_askTied c_roundOf m_firstMove (by omega) (by omega) (by omega) (by omega) (by omega) (by omega) hT hP hD hS (lv_sub hl [0, 1, 2, 3, 4, 5] rfl)
  refine lv_iload_n hx hb dX9_mootLast_0 rfl (lv_at hl 3 rfl) ?_
  have ttl_0 := tl_0
  refine lv_if_eq (tgt := 8) hx hb dX9_mootLast_1 (by decide) (fun c49 => ?_) (fun c49 => ?_)
  · have kc49 := c_eq c49
    refine lv_iconst (v := (-1)) hx hb dX9_mootLast_8 (by decide) ?_
    have ttl_m1 := tl_m1
    exact j9 f H locs ls ((-1) : Int32) (by omega) (by omega) (by omega) (by omega) hT hP hD hS (lv_sub hl [0, 1, 2, 3] rfl)
  · have kc49 := c_ne c49
    refine lv_iconst (v := 2) hx hb dX9_mootLast_4 (by decide) ?_
    refine lv_goto (tgt := 9) hx hb dX9_mootLast_5 (by decide) ?_
    have ttl_2 := tl_2
    exact j9 f H locs ls (2 : Int32) (by omega) (by omega) (by omega) (by omega) hT hP hD hS (lv_sub hl [0, 1, 2, 3] rfl)
set_option maxHeartbeats 4000000 in
set_option maxRecDepth 100000 in
theorem s_X9_mootTwo_0 (l : Launch) (B0 : Nat) (adK adV : Nat → Nat) (D : va_G) (cy : Nat → ClassId) (ad : Nat → Nat) (fr0 : Nat → va_E) (c_text : Nat → Int32) (m_taped : Int32) (m_size : Int32) (m_faultKind : Int32) (m_faultPlace : Int32) (m_at : Int32) (m_end : Int32) (m_token : Int32) (m_number : Int32) (m_name : Int64) (c_points : Nat → Int32) (c_strands : Nat → Int32) (c_units : Nat → Int32) (c_told : Nat → Int32) (c_ruleFrom : Nat → Int32) (c_ruleTo : Nat → Int32) (c_code : Nat → Int32) (c_eWhat : Nat → Int32) (c_eSign : Nat → Int32) (m_bank : Int32) (m_rb : Int32) (m_codes : Int32) (m_within : Int32) (m_piled : Int32) (m_unitsInRule : Int32) (m_askStrand : Int32) (m_askTied : Int32) (m_thoughtClaim : Int32) (m_thoughtNeed : Int32) (m_thoughtAll : Int32) (c_roundOf : Nat → Int32) (m_acts : Int32) (m_undone : Int32) (m_laid : Int32) (m_firstMove : Int32) (m_seens : Int32) (m_time : Int32) (m_waysNow : Int32) (m_fitting : Int32) (f : Nat → va_E) (hT : TYm ad cy fr0 c_text m_taped m_size m_faultKind m_faultPlace m_at m_end m_token m_number m_name c_points c_strands c_units c_told c_ruleFrom c_ruleTo c_code c_eWhat c_eSign m_bank m_rb m_codes m_within m_piled m_unitsInRule m_askStrand m_askTied m_thoughtClaim m_thoughtNeed m_thoughtAll c_roundOf m_acts m_undone m_laid m_firstMove m_seens m_time m_waysNow m_fitting f) (p1 : Int32) (hp1 : 0 ≤ p1.toInt ∧ p1.toInt ≤ 9) (p2 : Int32) (hp2 : 0 ≤ p2.toInt ∧ p2.toInt ≤ 4095) (p3 : Int32) (hp3 : 0 ≤ p3.toInt ∧ p3.toInt ≤ 1) (hCV : CVp c_told c_ruleFrom c_ruleTo c_code m_bank) (sz : Nat) : TtI l yX9_mootTwo wsX9_mootTwo 9 207 [.ref (ad 148), .int p1, .int p2, .int p3] B0 adK adV D cy ad f sz (fun (r : Int32) (g : Nat → va_E) => (-1 ≤ r.toInt ∧ r.toInt ≤ 2) ∧ (∃ (m_askStrand' : Int32) (m_askTied' : Int32) (c_roundOf' : Nat → Int32) (m_firstMove' : Int32), TYm ad cy fr0 c_text m_taped m_size m_faultKind m_faultPlace m_at m_end m_token m_number m_name c_points c_strands c_units c_told c_ruleFrom c_ruleTo c_code c_eWhat c_eSign m_bank m_rb m_codes m_within m_piled m_unitsInRule m_askStrand' m_askTied' m_thoughtClaim m_thoughtNeed m_thoughtAll c_roundOf' m_acts m_undone m_laid m_firstMove' m_seens m_time m_waysNow m_fitting g ∧ (-1 ≤ m_firstMove'.toInt ∧ m_firstMove'.toInt ≤ 11))) := by
  refine TtI.of (cc := cX9_mootTwo) (maxL := 8) (ty := .int) (own := RX9) (by decide) rfl (Nat.le_of_ble_eq_true rfl) rfl ?_
  intro p e s m below meth c A ls hx hb hr hml hts hown hlk hK hE hP hD hS hA hAB hl
  have hl : lv_has ls 8 [(0, .ref (ad 148)), (1, .int p1), (2, .int p2), (3, .int p3)] := hl
  refine st0 (fun H locs hP hS => ?_) hP hS
  have j17 : ∀ (N : Nat) (f : Nat → va_E) (H : Heap) (locs : List Loc) (ls : Array Slot) (v17_l6 : Int32) (v17_l5 : Int32) (v17_l4 : Int32) (v17_p_m_askStrand : Int32) (v17_p_m_askTied : Int32) (v17_p_c_roundOf : Nat → Int32) (v17_p_m_firstMove : Int32), (13 - v17_l6.toInt ≤ (N : Int)) → (-1 ≤ v17_l6.toInt ∧ v17_l6.toInt ≤ 12) → (-1 ≤ v17_l5.toInt ∧ v17_l5.toInt ≤ 11) → (-1 ≤ v17_l4.toInt ∧ v17_l4.toInt ≤ 2) → (0 ≤ p1.toInt ∧ p1.toInt ≤ 9) → (0 ≤ p2.toInt ∧ p2.toInt ≤ 4095) → (0 ≤ p3.toInt ∧ p3.toInt ≤ 1) → (TYm ad cy fr0 c_text m_taped m_size m_faultKind m_faultPlace m_at m_end m_token m_number m_name c_points c_strands c_units c_told c_ruleFrom c_ruleTo c_code c_eWhat c_eSign m_bank m_rb m_codes m_within m_piled m_unitsInRule v17_p_m_askStrand v17_p_m_askTied m_thoughtClaim m_thoughtNeed m_thoughtAll v17_p_c_roundOf m_acts m_undone m_laid v17_p_m_firstMove m_seens m_time m_waysNow m_fitting f) → (va_P D vwCl (wl ad f) H) → (va_D A (wl ad f)) → (va_S A s.heap H locs) → (lv_has ls 8 [(6, .int v17_l6), (5, .int v17_l5), (4, .int v17_l4), (0, .ref (ad 148)), (1, .int p1), (2, .int p2), (3, .int p3)]) → W p l e (rmO 9 207 0 0) s m ([.ref (ad 148), .int p1, .int p2, .int p3] : List Value).toArray below meth c H locs 0 0 (MQ below (va_Qi (fun (r : Int32) (g : Nat → va_E) => (-1 ≤ r.toInt ∧ r.toInt ≤ 2) ∧ (∃ (m_askStrand' : Int32) (m_askTied' : Int32) (c_roundOf' : Nat → Int32) (m_firstMove' : Int32), TYm ad cy fr0 c_text m_taped m_size m_faultKind m_faultPlace m_at m_end m_token m_number m_name c_points c_strands c_units c_told c_ruleFrom c_ruleTo c_code c_eWhat c_eSign m_bank m_rb m_codes m_within m_piled m_unitsInRule m_askStrand' m_askTied' m_thoughtClaim m_thoughtNeed m_thoughtAll c_roundOf' m_acts m_undone m_laid m_firstMove' m_seens m_time m_waysNow m_fitting g ∧ (-1 ≤ m_firstMove'.toInt ∧ m_firstMove'.toInt ≤ 11))) (fun g t => PstT D ad g t) A) ([.ref (ad 148), .int p1, .int p2, .int p3] : List Value).toArray s 0 0 A) (F0 m 17 ls []) := by
    intro N
    induction N with
    | zero => intro f H locs ls v17_l6 v17_l5 v17_l4 v17_p_m_askStrand v17_p_m_askTied v17_p_c_roundOf v17_p_m_firstMove hN hv17_l6 hv17_l5 hv17_l4 hv17_l1 hv17_l2 hv17_l3 hT hP hD hS hl; exact absurd hN (by omega)
    | succ N ih17 =>
      intro f H locs ls v17_l6 v17_l5 v17_l4 v17_p_m_askStrand v17_p_m_askTied v17_p_c_roundOf v17_p_m_firstMove hN hv17_l6 hv17_l5 hv17_l4 hv17_l1 hv17_l2 hv17_l3 hT hP hD hS hl
      have j81 : ∀ (f : Nat → va_E) (H : Heap) (locs : List Loc) (ls : Array Slot) (v81_l7 : Int32) (v81_l5 : Int32) (v81_l4 : Int32) (v81_p_m_askStrand : Int32) (v81_p_m_askTied : Int32) (v81_p_c_roundOf : Nat → Int32) (v81_p_m_firstMove : Int32), (-1 ≤ v81_l7.toInt ∧ v81_l7.toInt ≤ 2) → (-1 ≤ v17_l6.toInt ∧ v17_l6.toInt ≤ 11) → (-1 ≤ v81_l5.toInt ∧ v81_l5.toInt ≤ 11) → (-1 ≤ v81_l4.toInt ∧ v81_l4.toInt ≤ 2) → (0 ≤ p1.toInt ∧ p1.toInt ≤ 9) → (0 ≤ p2.toInt ∧ p2.toInt ≤ 4095) → (0 ≤ p3.toInt ∧ p3.toInt ≤ 1) → (TYm ad cy fr0 c_text m_taped m_size m_faultKind m_faultPlace m_at m_end m_token m_number m_name c_points c_strands c_units c_told c_ruleFrom c_ruleTo c_code c_eWhat c_eSign m_bank m_rb m_codes m_within m_piled m_unitsInRule v81_p_m_askStrand v81_p_m_askTied m_thoughtClaim m_thoughtNeed m_thoughtAll v81_p_c_roundOf m_acts m_undone m_laid v81_p_m_firstMove m_seens m_time m_waysNow m_fitting f) → (va_P D vwCl (wl ad f) H) → (va_D A (wl ad f)) → (va_S A s.heap H locs) → (lv_has ls 8 [(7, .int v81_l7), (6, .int v17_l6), (5, .int v81_l5), (4, .int v81_l4), (0, .ref (ad 148)), (1, .int p1), (2, .int p2), (3, .int p3)]) → W p l e (rmO 9 207 0 0) s m ([.ref (ad 148), .int p1, .int p2, .int p3] : List Value).toArray below meth c H locs 0 0 (MQ below (va_Qi (fun (r : Int32) (g : Nat → va_E) => (-1 ≤ r.toInt ∧ r.toInt ≤ 2) ∧ (∃ (m_askStrand' : Int32) (m_askTied' : Int32) (c_roundOf' : Nat → Int32) (m_firstMove' : Int32), TYm ad cy fr0 c_text m_taped m_size m_faultKind m_faultPlace m_at m_end m_token m_number m_name c_points c_strands c_units c_told c_ruleFrom c_ruleTo c_code c_eWhat c_eSign m_bank m_rb m_codes m_within m_piled m_unitsInRule m_askStrand' m_askTied' m_thoughtClaim m_thoughtNeed m_thoughtAll c_roundOf' m_acts m_undone m_laid m_firstMove' m_seens m_time m_waysNow m_fitting g ∧ (-1 ≤ m_firstMove'.toInt ∧ m_firstMove'.toInt ≤ 11))) (fun g t => PstT D ad g t) A) ([.ref (ad 148), .int p1, .int p2, .int p3] : List Value).toArray s 0 0 A) (F0 m 81 ls []) := by
        intro f H locs ls v81_l7 v81_l5 v81_l4 v81_p_m_askStrand v81_p_m_askTied v81_p_c_roundOf v81_p_m_firstMove hv81_l7 hv81_l6 hv81_l5 hv81_l4 hv81_l1 hv81_l2 hv81_l3 hT hP hD hS hl
        obtain ⟨x1, ex1⟩ : ∃ q : Int32, q = v17_l6 + Int32.ofInt (1) := ⟨_, rfl⟩
        refine lv_iinc (v := x1) (lv' := [(6, .int x1), (7, .int v81_l7), (5, .int v81_l5), (4, .int v81_l4), (0, .ref (ad 148)), (1, .int p1), (2, .int p2), (3, .int p3)]) hx hb dX9_mootTwo_81 hl (k := 1) rfl ex1.symm (by decide) rfl (fun ls hl => ?_)
        have hx1 := r_inc ex1 (by decide) (by omega) (by omega)
        refine lv_goto (tgt := 17) hx hb dX9_mootTwo_84 (by decide) ?_
        exact ih17 f H locs ls x1 v81_l5 v81_l4 v81_p_m_askStrand v81_p_m_askTied v81_p_c_roundOf v81_p_m_firstMove (by omega) (by omega) (by omega) (by omega) (by omega) (by omega) (by omega) hT hP hD hS (lv_sub hl [0, 2, 3, 4, 5, 6, 7] rfl)
      have j73 : ∀ (f : Nat → va_E) (H : Heap) (locs : List Loc) (ls : Array Slot) (v73_l7 : Int32) (v73_p_m_askStrand : Int32) (v73_p_m_askTied : Int32) (v73_p_c_roundOf : Nat → Int32) (v73_p_m_firstMove : Int32), (-1 ≤ v73_l7.toInt ∧ v73_l7.toInt ≤ 2) → (-1 ≤ v17_l6.toInt ∧ v17_l6.toInt ≤ 11) → (-1 ≤ v17_l5.toInt ∧ v17_l5.toInt ≤ 11) → (-1 ≤ v17_l4.toInt ∧ v17_l4.toInt ≤ 2) → (0 ≤ p1.toInt ∧ p1.toInt ≤ 9) → (0 ≤ p2.toInt ∧ p2.toInt ≤ 4095) → (0 ≤ p3.toInt ∧ p3.toInt ≤ 1) → (TYm ad cy fr0 c_text m_taped m_size m_faultKind m_faultPlace m_at m_end m_token m_number m_name c_points c_strands c_units c_told c_ruleFrom c_ruleTo c_code c_eWhat c_eSign m_bank m_rb m_codes m_within m_piled m_unitsInRule v73_p_m_askStrand v73_p_m_askTied m_thoughtClaim m_thoughtNeed m_thoughtAll v73_p_c_roundOf m_acts m_undone m_laid v73_p_m_firstMove m_seens m_time m_waysNow m_fitting f) → (va_P D vwCl (wl ad f) H) → (va_D A (wl ad f)) → (va_S A s.heap H locs) → (lv_has ls 8 [(7, .int v73_l7), (6, .int v17_l6), (5, .int v17_l5), (4, .int v17_l4), (0, .ref (ad 148)), (1, .int p1), (2, .int p2), (3, .int p3)]) → W p l e (rmO 9 207 0 0) s m ([.ref (ad 148), .int p1, .int p2, .int p3] : List Value).toArray below meth c H locs 0 0 (MQ below (va_Qi (fun (r : Int32) (g : Nat → va_E) => (-1 ≤ r.toInt ∧ r.toInt ≤ 2) ∧ (∃ (m_askStrand' : Int32) (m_askTied' : Int32) (c_roundOf' : Nat → Int32) (m_firstMove' : Int32), TYm ad cy fr0 c_text m_taped m_size m_faultKind m_faultPlace m_at m_end m_token m_number m_name c_points c_strands c_units c_told c_ruleFrom c_ruleTo c_code c_eWhat c_eSign m_bank m_rb m_codes m_within m_piled m_unitsInRule m_askStrand' m_askTied' m_thoughtClaim m_thoughtNeed m_thoughtAll c_roundOf' m_acts m_undone m_laid m_firstMove' m_seens m_time m_waysNow m_fitting g ∧ (-1 ≤ m_firstMove'.toInt ∧ m_firstMove'.toInt ≤ 11))) (fun g t => PstT D ad g t) A) ([.ref (ad 148), .int p1, .int p2, .int p3] : List Value).toArray s 0 0 A) (F0 m 73 ls []) := by
        intro f H locs ls v73_l7 v73_p_m_askStrand v73_p_m_askTied v73_p_c_roundOf v73_p_m_firstMove hv73_l7 hv73_l6 hv73_l5 hv73_l4 hv73_l1 hv73_l2 hv73_l3 hT hP hD hS hl
        refine lv_iload hx hb dX9_mootTwo_73 (lv_at hl 0 rfl) ?_
        refine lv_istore (lv' := [(4, .int v73_l7), (7, .int v73_l7), (6, .int v17_l6), (5, .int v17_l5), (0, .ref (ad 148)), (1, .int p1), (2, .int p2), (3, .int p3)]) hx hb dX9_mootTwo_75 hl (by decide) rfl (fun ls hl => ?_)
        refine lv_iload hx hb dX9_mootTwo_77 (lv_at hl 2 rfl) ?_
        refine lv_istore (lv' := [(5, .int v17_l6), (4, .int v73_l7), (7, .int v73_l7), (6, .int v17_l6), (0, .ref (ad 148)), (1, .int p1), (2, .int p2), (3, .int p3)]) hx hb dX9_mootTwo_79 hl (by decide) rfl (fun ls hl => ?_)
        exact j81 f H locs ls v73_l7 v17_l6 v73_l7 v73_p_m_askStrand v73_p_m_askTied v73_p_c_roundOf v73_p_m_firstMove (by omega) (by omega) (by omega) (by omega) (by omega) (by omega) (by omega) hT hP hD hS (lv_sub hl [2, 3, 0, 1, 4, 5, 6, 7] rfl)
      have j44 : ∀ (f : Nat → va_E) (H : Heap) (locs : List Loc) (ls : Array Slot) (v44_s2 : Int32) (v44_s3 : Int32), (-1 ≤ v17_l6.toInt ∧ v17_l6.toInt ≤ 11) → (-1 ≤ v17_l5.toInt ∧ v17_l5.toInt ≤ 11) → (-1 ≤ v17_l4.toInt ∧ v17_l4.toInt ≤ 2) → (0 ≤ p1.toInt ∧ p1.toInt ≤ 9) → (0 ≤ p2.toInt ∧ p2.toInt ≤ 4095) → (0 ≤ p3.toInt ∧ p3.toInt ≤ 1) → (0 ≤ p1.toInt ∧ p1.toInt ≤ 9) → (0 ≤ v44_s2.toInt ∧ v44_s2.toInt ≤ 4095) → (0 ≤ v44_s3.toInt ∧ v44_s3.toInt ≤ 1) → (TYm ad cy fr0 c_text m_taped m_size m_faultKind m_faultPlace m_at m_end m_token m_number m_name c_points c_strands c_units c_told c_ruleFrom c_ruleTo c_code c_eWhat c_eSign m_bank m_rb m_codes m_within m_piled m_unitsInRule v17_p_m_askStrand v17_p_m_askTied m_thoughtClaim m_thoughtNeed m_thoughtAll v17_p_c_roundOf m_acts m_undone m_laid v17_p_m_firstMove m_seens m_time m_waysNow m_fitting f) → (va_P D vwCl (wl ad f) H) → (va_D A (wl ad f)) → (va_S A s.heap H locs) → (lv_has ls 8 [(6, .int v17_l6), (5, .int v17_l5), (4, .int v17_l4), (0, .ref (ad 148)), (1, .int p1), (2, .int p2), (3, .int p3)]) → W p l e (rmO 9 207 0 0) s m ([.ref (ad 148), .int p1, .int p2, .int p3] : List Value).toArray below meth c H locs 0 0 (MQ below (va_Qi (fun (r : Int32) (g : Nat → va_E) => (-1 ≤ r.toInt ∧ r.toInt ≤ 2) ∧ (∃ (m_askStrand' : Int32) (m_askTied' : Int32) (c_roundOf' : Nat → Int32) (m_firstMove' : Int32), TYm ad cy fr0 c_text m_taped m_size m_faultKind m_faultPlace m_at m_end m_token m_number m_name c_points c_strands c_units c_told c_ruleFrom c_ruleTo c_code c_eWhat c_eSign m_bank m_rb m_codes m_within m_piled m_unitsInRule m_askStrand' m_askTied' m_thoughtClaim m_thoughtNeed m_thoughtAll c_roundOf' m_acts m_undone m_laid m_firstMove' m_seens m_time m_waysNow m_fitting g ∧ (-1 ≤ m_firstMove'.toInt ∧ m_firstMove'.toInt ≤ 11))) (fun g t => PstT D ad g t) A) ([.ref (ad 148), .int p1, .int p2, .int p3] : List Value).toArray s 0 0 A) (F0 m 44 ls [.int v44_s3, .int v44_s2, .int p1, .ref (ad 148)]) := by
        intro f H locs ls v44_s2 v44_s3 hv44_l6 hv44_l5 hv44_l4 hv44_l1 hv44_l2 hv44_l3 hv44_s1 hv44_s2 hv44_s3 hT hP hD hS hl
        obtain ⟨e17, h2, h3, h4, h5, h6, h7, h8, h9, h10, h11, h12, h13, h14, h15, h16⟩ := (show okX9 ad m_taped m_size m_faultKind m_faultPlace m_at m_end m_token m_number m_name m_bank m_rb m_codes m_within m_piled m_unitsInRule v17_p_m_askStrand v17_p_m_askTied m_thoughtClaim m_thoughtNeed m_thoughtAll m_acts m_undone m_laid v17_p_m_firstMove m_seens m_time m_waysNow m_fitting 148 (f 148) from hT.1 148 (by decide))
        refine tVI (As := [.int p1, .int v44_s2, .int v44_s3]) (rest := []) (i := 148) ⟨hx, hb, hml, hown, hts⟩ hK hE hP hD hS hA hAB (s_X9_mootLast_0 l B0 adK adV D cy ad fr0 c_text m_taped m_size m_faultKind m_faultPlace m_at m_end m_token m_number m_name c_points c_strands c_units c_told c_ruleFrom c_ruleTo c_code c_eWhat c_eSign m_bank m_rb m_codes m_within m_piled m_unitsInRule v17_p_m_askStrand v17_p_m_askTied m_thoughtClaim m_thoughtNeed m_thoughtAll v17_p_c_roundOf m_acts m_undone m_laid v17_p_m_firstMove m_seens m_time m_waysNow m_fitting f hT p1 (by omega) v44_s2 (by omega) v44_s3 (by omega) hCV _) (cwV 3 hts gX9_mootTwo_X9_mootLast rfl rfl rfl (by decide +kernel) ⟨Nat.le_of_ble_eq_true rfl, Nat.le_of_ble_eq_true rfl⟩) (by decide) 9 e17 rfl rfl hl.1 rfl (Nat.le_of_ble_eq_true rfl) dX9_mootTwo_44 ⟨Nat.le_of_ble_eq_true rfl, Nat.le_of_ble_eq_true rfl⟩ (fun r f H locs hw hP hD hS => ?_)
        obtain ⟨hrs, x18, x19, y20, x21, hT⟩ := hw
        obtain ⟨x22, rfl⟩ : ∃ q, q = r := ⟨_, rfl⟩
        have h23 := hrs
        refine lv_istore (lv' := [(7, .int x22), (6, .int v17_l6), (5, .int v17_l5), (4, .int v17_l4), (0, .ref (ad 148)), (1, .int p1), (2, .int p2), (3, .int p3)]) hx hb dX9_mootTwo_47 hl (by decide) rfl (fun ls hl => ?_)
        refine lv_iload_n hx hb dX9_mootTwo_49 rfl (lv_at hl 7 rfl) ?_
        have ttl_0 := tl_0
        refine lv_if_eq (tgt := 63) hx hb dX9_mootTwo_50 (by decide) (fun c24 => ?_) (fun c24 => ?_)
        · have kc24 := c_eq c24
          refine lv_iload hx hb dX9_mootTwo_63 (lv_at hl 0 rfl) ?_
          refine lv_iload hx hb dX9_mootTwo_65 (lv_at hl 3 rfl) ?_
          refine lv_icmp_gt (tgt := 73) hx hb dX9_mootTwo_67 (by decide) (fun c25 => ?_) (fun c25 => ?_)
          · have kc25 := c_lt c25
            exact j73 f H locs ls x22 x18 x19 y20 x21 (by omega) (by omega) (by omega) (by omega) (by omega) (by omega) (by omega) hT hP hD hS (lv_sub hl [0, 1, 2, 3, 4, 5, 6, 7] rfl)
          · have kc25 := c_nlt c25
            refine lv_goto (tgt := 81) hx hb dX9_mootTwo_70 (by decide) ?_
            exact j81 f H locs ls x22 v17_l5 v17_l4 x18 x19 y20 x21 (by omega) (by omega) (by omega) (by omega) (by omega) (by omega) (by omega) hT hP hD hS (lv_sub hl [0, 1, 2, 3, 4, 5, 6, 7] rfl)
        · have kc24 := c_ne c24
          refine lv_iload hx hb dX9_mootTwo_53 (lv_at hl 0 rfl) ?_
          refine lv_iload hx hb dX9_mootTwo_55 (lv_at hl 3 rfl) ?_
          refine lv_icmp_lt (tgt := 73) hx hb dX9_mootTwo_57 (by decide) (fun c26 => ?_) (fun c26 => ?_)
          · have kc26 := c_lt c26
            exact j73 f H locs ls x22 x18 x19 y20 x21 (by omega) (by omega) (by omega) (by omega) (by omega) (by omega) (by omega) hT hP hD hS (lv_sub hl [0, 1, 2, 3, 4, 5, 6, 7] rfl)
          · have kc26 := c_nlt c26
            refine lv_goto (tgt := 81) hx hb dX9_mootTwo_60 (by decide) ?_
            exact j81 f H locs ls x22 v17_l5 v17_l4 x18 x19 y20 x21 (by omega) (by omega) (by omega) (by omega) (by omega) (by omega) (by omega) hT hP hD hS (lv_sub hl [0, 1, 2, 3, 4, 5, 6, 7] rfl)
      refine lv_iload hx hb dX9_mootTwo_17 (lv_at hl 0 rfl) ?_
      refine lv_aload_n hx hb dX9_mootTwo_19 rfl (lv_at hl 3 rfl) ?_
      obtain ⟨e42, h27, h28, h29, h30, h31, h32, h33, h34, h35, h36, h37, h38, h39, h40, h41⟩ := (show okX9 ad m_taped m_size m_faultKind m_faultPlace m_at m_end m_token m_number m_name m_bank m_rb m_codes m_within m_piled m_unitsInRule v17_p_m_askStrand v17_p_m_askTied m_thoughtClaim m_thoughtNeed m_thoughtAll m_acts m_undone m_laid v17_p_m_firstMove m_seens m_time m_waysNow m_fitting 148 (f 148) from hT.1 148 (by decide))
      refine tVI (As := []) (rest := [.int v17_l6]) (i := 148) ⟨hx, hb, hml, hown, hts⟩ hK hE hP hD hS hA hAB (s_X9_threads_0 l B0 adK adV D cy ad fr0 c_text m_taped m_size m_faultKind m_faultPlace m_at m_end m_token m_number m_name c_points c_strands c_units c_told c_ruleFrom c_ruleTo c_code c_eWhat c_eSign m_bank m_rb m_codes m_within m_piled m_unitsInRule v17_p_m_askStrand v17_p_m_askTied m_thoughtClaim m_thoughtNeed m_thoughtAll v17_p_c_roundOf m_acts m_undone m_laid v17_p_m_firstMove m_seens m_time m_waysNow m_fitting f hT _) (cwV 0 hts gX9_mootTwo_X9_threads rfl rfl rfl (by decide +kernel) ⟨Nat.le_of_ble_eq_true rfl, Nat.le_of_ble_eq_true rfl⟩) (by decide) 9 e42 rfl rfl hl.1 rfl (Nat.le_of_ble_eq_true rfl) dX9_mootTwo_20 ⟨Nat.le_of_ble_eq_true rfl, Nat.le_of_ble_eq_true rfl⟩ (fun r g H locs hw hP hD hS => ?_)
      obtain ⟨hrs, rfl⟩ := hw
      obtain ⟨x43, rfl⟩ : ∃ q, q = r := ⟨_, rfl⟩
      have h44 := hrs
      refine lv_icmp_ge (tgt := 87) hx hb dX9_mootTwo_23 (by decide) (fun c45 => ?_) (fun c45 => ?_)
      · have kc45 := c_le c45
        refine lv_aload_n hx hb dX9_mootTwo_87 rfl (lv_at hl 3 rfl) ?_
        refine lv_iload hx hb dX9_mootTwo_88 (lv_at hl 1 rfl) ?_
        refine va_put (D := D) (cl := vwCl) (ci := 9) (v := .int v17_l5) (ty := tyX9 49) (C := RX9) (T := TX9) (N := 64) hx hb hts in_X9_mootTwo_X9 tyX9 tyX9_ok nmX9 hown hK hP hD hS 148 (wl_at (by decide) e42) rfl 49 (by decide) (hts (.fieldLink RX9 464 "EightReasonsModel" "firstMove" "I") (List.mem_of_getElem? (i := 1) rfl)) (fun _ h9 => h9) rfl (tyX9_ok 49 (by decide)) rfl rfl (Nat.le_of_ble_eq_true rfl) dX9_mootTwo_90 (fun H locs hP hD hS => ?_)
        obtain ⟨f, hT, hP, hD, e46, hj47⟩ := stU (by decide) (TYm.p148 hT (show OKm ad cy c_text m_taped m_size m_faultKind m_faultPlace m_at m_end m_token m_number m_name c_points c_strands c_units c_told c_ruleFrom c_ruleTo c_code c_eWhat c_eSign m_bank m_rb m_codes m_within m_piled m_unitsInRule v17_p_m_askStrand v17_p_m_askTied m_thoughtClaim m_thoughtNeed m_thoughtAll v17_p_c_roundOf m_acts m_undone m_laid v17_l5 m_seens m_time m_waysNow m_fitting 148 _ from (show okX9 ad m_taped m_size m_faultKind m_faultPlace m_at m_end m_token m_number m_name m_bank m_rb m_codes m_within m_piled m_unitsInRule v17_p_m_askStrand v17_p_m_askTied m_thoughtClaim m_thoughtNeed m_thoughtAll m_acts m_undone m_laid v17_l5 m_seens m_time m_waysNow m_fitting 148 _ from ⟨rfl, by omega, by omega, by omega, by omega, by omega, by omega, by omega, by omega, by omega, by omega, by omega, by omega, by omega, by omega, by omega⟩))) hP hD
        refine lv_iload hx hb dX9_mootTwo_93 (lv_at hl 2 rfl) ?_
        exact tI hx hb hr hlk rfl hP hS ⟨(by omega), ⟨v17_p_m_askStrand, v17_p_m_askTied, v17_p_c_roundOf, v17_l5, hT, by omega⟩⟩ dX9_mootTwo_95
      · have kc45 := c_nle c45
        refine lv_aload_n hx hb dX9_mootTwo_26 rfl (lv_at hl 3 rfl) ?_
        refine lv_iload_n hx hb dX9_mootTwo_27 rfl (lv_at hl 4 rfl) ?_
        refine lv_aload_n hx hb dX9_mootTwo_28 rfl (lv_at hl 3 rfl) ?_
        refine lv_iload_n hx hb dX9_mootTwo_29 rfl (lv_at hl 5 rfl) ?_
        refine lv_iload hx hb dX9_mootTwo_30 (lv_at hl 0 rfl) ?_
        refine tVI (As := [.int p2, .int v17_l6]) (rest := [.int p1, .ref (ad 148)]) (i := 148) ⟨hx, hb, hml, hown, hts⟩ hK hE hP hD hS hA hAB (s_X9_afterMove_0 l B0 adK adV D cy ad fr0 c_text m_taped m_size m_faultKind m_faultPlace m_at m_end m_token m_number m_name c_points c_strands c_units c_told c_ruleFrom c_ruleTo c_code c_eWhat c_eSign m_bank m_rb m_codes m_within m_piled m_unitsInRule v17_p_m_askStrand v17_p_m_askTied m_thoughtClaim m_thoughtNeed m_thoughtAll v17_p_c_roundOf m_acts m_undone m_laid v17_p_m_firstMove m_seens m_time m_waysNow m_fitting f hT p2 (by omega) v17_l6 (by omega) _) (cwV 2 hts gX9_mootTwo_X9_afterMove rfl rfl rfl (by decide +kernel) ⟨Nat.le_of_ble_eq_true rfl, Nat.le_of_ble_eq_true rfl⟩) (by decide) 9 e42 rfl rfl hl.1 rfl (Nat.le_of_ble_eq_true rfl) dX9_mootTwo_32 ⟨Nat.le_of_ble_eq_true rfl, Nat.le_of_ble_eq_true rfl⟩ (fun r g H locs hw hP hD hS => ?_)
        obtain ⟨hrs, rfl⟩ := hw
        obtain ⟨x48, rfl⟩ : ∃ q, q = r := ⟨_, rfl⟩
        have h49 := hrs
        refine lv_iload_n hx hb dX9_mootTwo_35 rfl (lv_at hl 6 rfl) ?_
        have ttl_0 := tl_0
        refine lv_if_ne (tgt := 43) hx hb dX9_mootTwo_36 (by decide) (fun c50 => ?_) (fun c50 => ?_)
        · have kc50 := c_ne c50
          refine lv_iconst (v := 0) hx hb dX9_mootTwo_43 (by decide) ?_
          exact j44 f H locs ls x48 (0 : Int32) (by omega) (by omega) (by omega) (by omega) (by omega) (by omega) (by omega) (by omega) (by omega) hT hP hD hS (lv_sub hl [0, 1, 2, 3, 4, 5, 6] rfl)
        · have kc50 := c_eq c50
          refine lv_iconst (v := 1) hx hb dX9_mootTwo_39 (by decide) ?_
          refine lv_goto (tgt := 44) hx hb dX9_mootTwo_40 (by decide) ?_
          have ttl_1 := tl_1
          exact j44 f H locs ls x48 (1 : Int32) (by omega) (by omega) (by omega) (by omega) (by omega) (by omega) (by omega) (by omega) (by omega) hT hP hD hS (lv_sub hl [0, 1, 2, 3, 4, 5, 6] rfl)
  have j9 : ∀ (f : Nat → va_E) (H : Heap) (locs : List Loc) (ls : Array Slot) (v9_s0 : Int32), (0 ≤ p1.toInt ∧ p1.toInt ≤ 9) → (0 ≤ p2.toInt ∧ p2.toInt ≤ 4095) → (0 ≤ p3.toInt ∧ p3.toInt ≤ 1) → (-1 ≤ v9_s0.toInt ∧ v9_s0.toInt ≤ 2) → (TYm ad cy fr0 c_text m_taped m_size m_faultKind m_faultPlace m_at m_end m_token m_number m_name c_points c_strands c_units c_told c_ruleFrom c_ruleTo c_code c_eWhat c_eSign m_bank m_rb m_codes m_within m_piled m_unitsInRule m_askStrand m_askTied m_thoughtClaim m_thoughtNeed m_thoughtAll c_roundOf m_acts m_undone m_laid m_firstMove m_seens m_time m_waysNow m_fitting f) → (va_P D vwCl (wl ad f) H) → (va_D A (wl ad f)) → (va_S A s.heap H locs) → (lv_has ls 8 [(0, .ref (ad 148)), (1, .int p1), (2, .int p2), (3, .int p3)]) → W p l e (rmO 9 207 0 0) s m ([.ref (ad 148), .int p1, .int p2, .int p3] : List Value).toArray below meth c H locs 0 0 (MQ below (va_Qi (fun (r : Int32) (g : Nat → va_E) => (-1 ≤ r.toInt ∧ r.toInt ≤ 2) ∧ (∃ (m_askStrand' : Int32) (m_askTied' : Int32) (c_roundOf' : Nat → Int32) (m_firstMove' : Int32), TYm ad cy fr0 c_text m_taped m_size m_faultKind m_faultPlace m_at m_end m_token m_number m_name c_points c_strands c_units c_told c_ruleFrom c_ruleTo c_code c_eWhat c_eSign m_bank m_rb m_codes m_within m_piled m_unitsInRule m_askStrand' m_askTied' m_thoughtClaim m_thoughtNeed m_thoughtAll c_roundOf' m_acts m_undone m_laid m_firstMove' m_seens m_time m_waysNow m_fitting g ∧ (-1 ≤ m_firstMove'.toInt ∧ m_firstMove'.toInt ≤ 11))) (fun g t => PstT D ad g t) A) ([.ref (ad 148), .int p1, .int p2, .int p3] : List Value).toArray s 0 0 A) (F0 m 9 ls [.int v9_s0]) := by
    intro f H locs ls v9_s0 hv9_l1 hv9_l2 hv9_l3 hv9_s0 hT hP hD hS hl
    refine lv_istore (lv' := [(4, .int v9_s0), (0, .ref (ad 148)), (1, .int p1), (2, .int p2), (3, .int p3)]) hx hb dX9_mootTwo_9 hl (by decide) rfl (fun ls hl => ?_)
    refine lv_iconst (v := (-1)) hx hb dX9_mootTwo_11 (by decide) ?_
    refine lv_istore (lv' := [(5, .int (-1)), (4, .int v9_s0), (0, .ref (ad 148)), (1, .int p1), (2, .int p2), (3, .int p3)]) hx hb dX9_mootTwo_12 hl (by decide) rfl (fun ls hl => ?_)
    refine lv_iconst (v := (-1)) hx hb dX9_mootTwo_14 (by decide) ?_
    refine lv_istore (lv' := [(6, .int (-1)), (5, .int (-1)), (4, .int v9_s0), (0, .ref (ad 148)), (1, .int p1), (2, .int p2), (3, .int p3)]) hx hb dX9_mootTwo_15 hl (by decide) rfl (fun ls hl => ?_)
    have ttl_m1 := tl_m1
    exact j17 (Int.toNat (13 - ((-1) : Int32).toInt)) f H locs ls ((-1) : Int32) ((-1) : Int32) v9_s0 m_askStrand m_askTied c_roundOf m_firstMove (by omega) (by omega) (by omega) (by omega) (by omega) (by omega) (by omega) hT hP hD hS (lv_sub hl [0, 1, 2, 3, 4, 5, 6] rfl)
  refine lv_iload_n hx hb dX9_mootTwo_0 rfl (lv_at hl 3 rfl) ?_
  have ttl_0 := tl_0
  refine lv_if_eq (tgt := 8) hx hb dX9_mootTwo_1 (by decide) (fun c51 => ?_) (fun c51 => ?_)
  · have kc51 := c_eq c51
    refine lv_iconst (v := (-1)) hx hb dX9_mootTwo_8 (by decide) ?_
    have ttl_m1 := tl_m1
    exact j9 f H locs ls ((-1) : Int32) (by omega) (by omega) (by omega) (by omega) hT hP hD hS (lv_sub hl [0, 1, 2, 3] rfl)
  · have kc51 := c_ne c51
    refine lv_iconst (v := 2) hx hb dX9_mootTwo_4 (by decide) ?_
    refine lv_goto (tgt := 9) hx hb dX9_mootTwo_5 (by decide) ?_
    have ttl_2 := tl_2
    exact j9 f H locs ls (2 : Int32) (by omega) (by omega) (by omega) (by omega) hT hP hD hS (lv_sub hl [0, 1, 2, 3] rfl)
set_option maxHeartbeats 4000000 in
set_option maxRecDepth 100000 in
theorem s_X9_mootThree_0 (l : Launch) (B0 : Nat) (adK adV : Nat → Nat) (D : va_G) (cy : Nat → ClassId) (ad : Nat → Nat) (fr0 : Nat → va_E) (c_text : Nat → Int32) (m_taped : Int32) (m_size : Int32) (m_faultKind : Int32) (m_faultPlace : Int32) (m_at : Int32) (m_end : Int32) (m_token : Int32) (m_number : Int32) (m_name : Int64) (c_points : Nat → Int32) (c_strands : Nat → Int32) (c_units : Nat → Int32) (c_told : Nat → Int32) (c_ruleFrom : Nat → Int32) (c_ruleTo : Nat → Int32) (c_code : Nat → Int32) (c_eWhat : Nat → Int32) (c_eSign : Nat → Int32) (m_bank : Int32) (m_rb : Int32) (m_codes : Int32) (m_within : Int32) (m_piled : Int32) (m_unitsInRule : Int32) (m_askStrand : Int32) (m_askTied : Int32) (m_thoughtClaim : Int32) (m_thoughtNeed : Int32) (m_thoughtAll : Int32) (c_roundOf : Nat → Int32) (m_acts : Int32) (m_undone : Int32) (m_laid : Int32) (m_firstMove : Int32) (m_seens : Int32) (m_time : Int32) (m_waysNow : Int32) (m_fitting : Int32) (f : Nat → va_E) (hT : TYm ad cy fr0 c_text m_taped m_size m_faultKind m_faultPlace m_at m_end m_token m_number m_name c_points c_strands c_units c_told c_ruleFrom c_ruleTo c_code c_eWhat c_eSign m_bank m_rb m_codes m_within m_piled m_unitsInRule m_askStrand m_askTied m_thoughtClaim m_thoughtNeed m_thoughtAll c_roundOf m_acts m_undone m_laid m_firstMove m_seens m_time m_waysNow m_fitting f) (p1 : Int32) (hp1 : 0 ≤ p1.toInt ∧ p1.toInt ≤ 9) (p2 : Int32) (hp2 : 0 ≤ p2.toInt ∧ p2.toInt ≤ 4095) (hCV : CVp c_told c_ruleFrom c_ruleTo c_code m_bank) (sz : Nat) : TtI l yX9_mootThree wsX9_mootThree 10 234 [.ref (ad 148), .int p1, .int p2] B0 adK adV D cy ad f sz (fun (r : Int32) (g : Nat → va_E) => (-1 ≤ r.toInt ∧ r.toInt ≤ 2) ∧ (∃ (m_askStrand' : Int32) (m_askTied' : Int32) (c_roundOf' : Nat → Int32) (m_firstMove' : Int32), TYm ad cy fr0 c_text m_taped m_size m_faultKind m_faultPlace m_at m_end m_token m_number m_name c_points c_strands c_units c_told c_ruleFrom c_ruleTo c_code c_eWhat c_eSign m_bank m_rb m_codes m_within m_piled m_unitsInRule m_askStrand' m_askTied' m_thoughtClaim m_thoughtNeed m_thoughtAll c_roundOf' m_acts m_undone m_laid m_firstMove' m_seens m_time m_waysNow m_fitting g ∧ (-1 ≤ m_firstMove'.toInt ∧ m_firstMove'.toInt ≤ 11))) := by
  refine TtI.of (cc := cX9_mootThree) (maxL := 7) (ty := .int) (own := RX9) (by decide) rfl (Nat.le_of_ble_eq_true rfl) rfl ?_
  intro p e s m below meth c A ls hx hb hr hml hts hown hlk hK hE hP hD hS hA hAB hl
  have hl : lv_has ls 7 [(0, .ref (ad 148)), (1, .int p1), (2, .int p2)] := hl
  refine st0 (fun H locs hP hS => ?_) hP hS
  have j8 : ∀ (N : Nat) (f : Nat → va_E) (H : Heap) (locs : List Loc) (ls : Array Slot) (v8_l5 : Int32) (v8_l4 : Int32) (v8_l3 : Int32) (v8_p_m_askStrand : Int32) (v8_p_m_askTied : Int32) (v8_p_c_roundOf : Nat → Int32) (v8_p_m_firstMove : Int32), (13 - v8_l5.toInt ≤ (N : Int)) → (-1 ≤ v8_l5.toInt ∧ v8_l5.toInt ≤ 12) → (-1 ≤ v8_l4.toInt ∧ v8_l4.toInt ≤ 11) → (-1 ≤ v8_l3.toInt ∧ v8_l3.toInt ≤ 2) → (0 ≤ p1.toInt ∧ p1.toInt ≤ 9) → (0 ≤ p2.toInt ∧ p2.toInt ≤ 4095) → (TYm ad cy fr0 c_text m_taped m_size m_faultKind m_faultPlace m_at m_end m_token m_number m_name c_points c_strands c_units c_told c_ruleFrom c_ruleTo c_code c_eWhat c_eSign m_bank m_rb m_codes m_within m_piled m_unitsInRule v8_p_m_askStrand v8_p_m_askTied m_thoughtClaim m_thoughtNeed m_thoughtAll v8_p_c_roundOf m_acts m_undone m_laid v8_p_m_firstMove m_seens m_time m_waysNow m_fitting f) → (va_P D vwCl (wl ad f) H) → (va_D A (wl ad f)) → (va_S A s.heap H locs) → (lv_has ls 7 [(5, .int v8_l5), (4, .int v8_l4), (3, .int v8_l3), (0, .ref (ad 148)), (1, .int p1), (2, .int p2)]) → W p l e (rmO 10 234 0 0) s m ([.ref (ad 148), .int p1, .int p2] : List Value).toArray below meth c H locs 0 0 (MQ below (va_Qi (fun (r : Int32) (g : Nat → va_E) => (-1 ≤ r.toInt ∧ r.toInt ≤ 2) ∧ (∃ (m_askStrand' : Int32) (m_askTied' : Int32) (c_roundOf' : Nat → Int32) (m_firstMove' : Int32), TYm ad cy fr0 c_text m_taped m_size m_faultKind m_faultPlace m_at m_end m_token m_number m_name c_points c_strands c_units c_told c_ruleFrom c_ruleTo c_code c_eWhat c_eSign m_bank m_rb m_codes m_within m_piled m_unitsInRule m_askStrand' m_askTied' m_thoughtClaim m_thoughtNeed m_thoughtAll c_roundOf' m_acts m_undone m_laid m_firstMove' m_seens m_time m_waysNow m_fitting g ∧ (-1 ≤ m_firstMove'.toInt ∧ m_firstMove'.toInt ≤ 11))) (fun g t => PstT D ad g t) A) ([.ref (ad 148), .int p1, .int p2] : List Value).toArray s 0 0 A) (F0 m 8 ls []) := by
    intro N
    induction N with
    | zero => intro f H locs ls v8_l5 v8_l4 v8_l3 v8_p_m_askStrand v8_p_m_askTied v8_p_c_roundOf v8_p_m_firstMove hN hv8_l5 hv8_l4 hv8_l3 hv8_l1 hv8_l2 hT hP hD hS hl; exact absurd hN (by omega)
    | succ N ih8 =>
      intro f H locs ls v8_l5 v8_l4 v8_l3 v8_p_m_askStrand v8_p_m_askTied v8_p_c_roundOf v8_p_m_firstMove hN hv8_l5 hv8_l4 hv8_l3 hv8_l1 hv8_l2 hT hP hD hS hl
      have j48 : ∀ (f : Nat → va_E) (H : Heap) (locs : List Loc) (ls : Array Slot) (v48_l4 : Int32) (v48_l3 : Int32) (v48_l6 : Int32) (v48_p_m_askStrand : Int32) (v48_p_m_askTied : Int32) (v48_p_c_roundOf : Nat → Int32) (v48_p_m_firstMove : Int32), (-1 ≤ v48_l4.toInt ∧ v48_l4.toInt ≤ 11) → (-1 ≤ v48_l3.toInt ∧ v48_l3.toInt ≤ 2) → (-1 ≤ v48_l6.toInt ∧ v48_l6.toInt ≤ 2) → (-1 ≤ v8_l5.toInt ∧ v8_l5.toInt ≤ 11) → (0 ≤ p1.toInt ∧ p1.toInt ≤ 9) → (0 ≤ p2.toInt ∧ p2.toInt ≤ 4095) → (-1 ≤ v48_p_m_firstMove.toInt ∧ v48_p_m_firstMove.toInt ≤ 11) → (TYm ad cy fr0 c_text m_taped m_size m_faultKind m_faultPlace m_at m_end m_token m_number m_name c_points c_strands c_units c_told c_ruleFrom c_ruleTo c_code c_eWhat c_eSign m_bank m_rb m_codes m_within m_piled m_unitsInRule v48_p_m_askStrand v48_p_m_askTied m_thoughtClaim m_thoughtNeed m_thoughtAll v48_p_c_roundOf m_acts m_undone m_laid v48_p_m_firstMove m_seens m_time m_waysNow m_fitting f) → (va_P D vwCl (wl ad f) H) → (va_D A (wl ad f)) → (va_S A s.heap H locs) → (lv_has ls 7 [(4, .int v48_l4), (3, .int v48_l3), (6, .int v48_l6), (5, .int v8_l5), (0, .ref (ad 148)), (1, .int p1), (2, .int p2)]) → W p l e (rmO 10 234 0 0) s m ([.ref (ad 148), .int p1, .int p2] : List Value).toArray below meth c H locs 0 0 (MQ below (va_Qi (fun (r : Int32) (g : Nat → va_E) => (-1 ≤ r.toInt ∧ r.toInt ≤ 2) ∧ (∃ (m_askStrand' : Int32) (m_askTied' : Int32) (c_roundOf' : Nat → Int32) (m_firstMove' : Int32), TYm ad cy fr0 c_text m_taped m_size m_faultKind m_faultPlace m_at m_end m_token m_number m_name c_points c_strands c_units c_told c_ruleFrom c_ruleTo c_code c_eWhat c_eSign m_bank m_rb m_codes m_within m_piled m_unitsInRule m_askStrand' m_askTied' m_thoughtClaim m_thoughtNeed m_thoughtAll c_roundOf' m_acts m_undone m_laid m_firstMove' m_seens m_time m_waysNow m_fitting g ∧ (-1 ≤ m_firstMove'.toInt ∧ m_firstMove'.toInt ≤ 11))) (fun g t => PstT D ad g t) A) ([.ref (ad 148), .int p1, .int p2] : List Value).toArray s 0 0 A) (F0 m 48 ls []) := by
        intro f H locs ls v48_l4 v48_l3 v48_l6 v48_p_m_askStrand v48_p_m_askTied v48_p_c_roundOf v48_p_m_firstMove hv48_l4 hv48_l3 hv48_l6 hv48_l5 hv48_l1 hv48_l2 hv48_p_m_firstMove hT hP hD hS hl
        obtain ⟨x1, ex1⟩ : ∃ q : Int32, q = v8_l5 + Int32.ofInt (1) := ⟨_, rfl⟩
        refine lv_iinc (v := x1) (lv' := [(5, .int x1), (4, .int v48_l4), (3, .int v48_l3), (6, .int v48_l6), (0, .ref (ad 148)), (1, .int p1), (2, .int p2)]) hx hb dX9_mootThree_48 hl (k := 3) rfl ex1.symm (by decide) rfl (fun ls hl => ?_)
        have hx1 := r_inc ex1 (by decide) (by omega) (by omega)
        refine lv_goto (tgt := 8) hx hb dX9_mootThree_51 (by decide) ?_
        exact ih8 f H locs ls x1 v48_l4 v48_l3 v48_p_m_askStrand v48_p_m_askTied v48_p_c_roundOf v48_p_m_firstMove (by omega) (by omega) (by omega) (by omega) (by omega) (by omega) hT hP hD hS (lv_sub hl [0, 1, 2, 4, 5, 6] rfl)
      refine lv_iload hx hb dX9_mootThree_8 (lv_at hl 0 rfl) ?_
      refine lv_aload_n hx hb dX9_mootThree_10 rfl (lv_at hl 3 rfl) ?_
      obtain ⟨e17, h2, h3, h4, h5, h6, h7, h8, h9, h10, h11, h12, h13, h14, h15, h16⟩ := (show okX9 ad m_taped m_size m_faultKind m_faultPlace m_at m_end m_token m_number m_name m_bank m_rb m_codes m_within m_piled m_unitsInRule v8_p_m_askStrand v8_p_m_askTied m_thoughtClaim m_thoughtNeed m_thoughtAll m_acts m_undone m_laid v8_p_m_firstMove m_seens m_time m_waysNow m_fitting 148 (f 148) from hT.1 148 (by decide))
      refine tVI (As := []) (rest := [.int v8_l5]) (i := 148) ⟨hx, hb, hml, hown, hts⟩ hK hE hP hD hS hA hAB (s_X9_threads_0 l B0 adK adV D cy ad fr0 c_text m_taped m_size m_faultKind m_faultPlace m_at m_end m_token m_number m_name c_points c_strands c_units c_told c_ruleFrom c_ruleTo c_code c_eWhat c_eSign m_bank m_rb m_codes m_within m_piled m_unitsInRule v8_p_m_askStrand v8_p_m_askTied m_thoughtClaim m_thoughtNeed m_thoughtAll v8_p_c_roundOf m_acts m_undone m_laid v8_p_m_firstMove m_seens m_time m_waysNow m_fitting f hT _) (cwV 0 hts gX9_mootThree_X9_threads rfl rfl rfl (by decide +kernel) ⟨Nat.le_of_ble_eq_true rfl, Nat.le_of_ble_eq_true rfl⟩) (by decide) 9 e17 rfl rfl hl.1 rfl (Nat.le_of_ble_eq_true rfl) dX9_mootThree_11 ⟨Nat.le_of_ble_eq_true rfl, Nat.le_of_ble_eq_true rfl⟩ (fun r g H locs hw hP hD hS => ?_)
      obtain ⟨hrs, rfl⟩ := hw
      obtain ⟨x18, rfl⟩ : ∃ q, q = r := ⟨_, rfl⟩
      have h19 := hrs
      refine lv_icmp_ge (tgt := 54) hx hb dX9_mootThree_14 (by decide) (fun c20 => ?_) (fun c20 => ?_)
      · have kc20 := c_le c20
        refine lv_aload_n hx hb dX9_mootThree_54 rfl (lv_at hl 3 rfl) ?_
        refine lv_iload hx hb dX9_mootThree_55 (lv_at hl 1 rfl) ?_
        refine va_put (D := D) (cl := vwCl) (ci := 9) (v := .int v8_l4) (ty := tyX9 49) (C := RX9) (T := TX9) (N := 64) hx hb hts in_X9_mootThree_X9 tyX9 tyX9_ok nmX9 hown hK hP hD hS 148 (wl_at (by decide) e17) rfl 49 (by decide) (hts (.fieldLink RX9 464 "EightReasonsModel" "firstMove" "I") (List.mem_of_getElem? (i := 1) rfl)) (fun _ h9 => h9) rfl (tyX9_ok 49 (by decide)) rfl rfl (Nat.le_of_ble_eq_true rfl) dX9_mootThree_57 (fun H locs hP hD hS => ?_)
        obtain ⟨f, hT, hP, hD, e21, hj22⟩ := stU (by decide) (TYm.p148 hT (show OKm ad cy c_text m_taped m_size m_faultKind m_faultPlace m_at m_end m_token m_number m_name c_points c_strands c_units c_told c_ruleFrom c_ruleTo c_code c_eWhat c_eSign m_bank m_rb m_codes m_within m_piled m_unitsInRule v8_p_m_askStrand v8_p_m_askTied m_thoughtClaim m_thoughtNeed m_thoughtAll v8_p_c_roundOf m_acts m_undone m_laid v8_l4 m_seens m_time m_waysNow m_fitting 148 _ from (show okX9 ad m_taped m_size m_faultKind m_faultPlace m_at m_end m_token m_number m_name m_bank m_rb m_codes m_within m_piled m_unitsInRule v8_p_m_askStrand v8_p_m_askTied m_thoughtClaim m_thoughtNeed m_thoughtAll m_acts m_undone m_laid v8_l4 m_seens m_time m_waysNow m_fitting 148 _ from ⟨rfl, by omega, by omega, by omega, by omega, by omega, by omega, by omega, by omega, by omega, by omega, by omega, by omega, by omega, by omega, by omega⟩))) hP hD
        refine lv_iload_n hx hb dX9_mootThree_60 rfl (lv_at hl 2 rfl) ?_
        exact tI hx hb hr hlk rfl hP hS ⟨(by omega), ⟨v8_p_m_askStrand, v8_p_m_askTied, v8_p_c_roundOf, v8_l4, hT, by omega⟩⟩ dX9_mootThree_61
      · have kc20 := c_nle c20
        refine lv_aload_n hx hb dX9_mootThree_17 rfl (lv_at hl 3 rfl) ?_
        refine lv_iload_n hx hb dX9_mootThree_18 rfl (lv_at hl 4 rfl) ?_
        refine lv_aload_n hx hb dX9_mootThree_19 rfl (lv_at hl 3 rfl) ?_
        refine lv_iload_n hx hb dX9_mootThree_20 rfl (lv_at hl 5 rfl) ?_
        refine lv_iload hx hb dX9_mootThree_21 (lv_at hl 0 rfl) ?_
        refine tVI (As := [.int p2, .int v8_l5]) (rest := [.int p1, .ref (ad 148)]) (i := 148) ⟨hx, hb, hml, hown, hts⟩ hK hE hP hD hS hA hAB (s_X9_afterMove_0 l B0 adK adV D cy ad fr0 c_text m_taped m_size m_faultKind m_faultPlace m_at m_end m_token m_number m_name c_points c_strands c_units c_told c_ruleFrom c_ruleTo c_code c_eWhat c_eSign m_bank m_rb m_codes m_within m_piled m_unitsInRule v8_p_m_askStrand v8_p_m_askTied m_thoughtClaim m_thoughtNeed m_thoughtAll v8_p_c_roundOf m_acts m_undone m_laid v8_p_m_firstMove m_seens m_time m_waysNow m_fitting f hT p2 (by omega) v8_l5 (by omega) _) (cwV 2 hts gX9_mootThree_X9_afterMove rfl rfl rfl (by decide +kernel) ⟨Nat.le_of_ble_eq_true rfl, Nat.le_of_ble_eq_true rfl⟩) (by decide) 9 e17 rfl rfl hl.1 rfl (Nat.le_of_ble_eq_true rfl) dX9_mootThree_23 ⟨Nat.le_of_ble_eq_true rfl, Nat.le_of_ble_eq_true rfl⟩ (fun r g H locs hw hP hD hS => ?_)
        obtain ⟨hrs, rfl⟩ := hw
        obtain ⟨x23, rfl⟩ : ∃ q, q = r := ⟨_, rfl⟩
        have h24 := hrs
        refine lv_iconst (v := 0) hx hb dX9_mootThree_26 (by decide) ?_
        have ttl_0 := tl_0
        refine tVI (As := [.int p1, .int x23, .int 0]) (rest := []) (i := 148) ⟨hx, hb, hml, hown, hts⟩ hK hE hP hD hS hA hAB (s_X9_mootTwo_0 l B0 adK adV D cy ad fr0 c_text m_taped m_size m_faultKind m_faultPlace m_at m_end m_token m_number m_name c_points c_strands c_units c_told c_ruleFrom c_ruleTo c_code c_eWhat c_eSign m_bank m_rb m_codes m_within m_piled m_unitsInRule v8_p_m_askStrand v8_p_m_askTied m_thoughtClaim m_thoughtNeed m_thoughtAll v8_p_c_roundOf m_acts m_undone m_laid v8_p_m_firstMove m_seens m_time m_waysNow m_fitting f hT p1 (by omega) x23 (by omega) (0 : Int32) (by omega) hCV _) (cwV 3 hts gX9_mootThree_X9_mootTwo rfl rfl rfl (by decide +kernel) ⟨Nat.le_of_ble_eq_true rfl, Nat.le_of_ble_eq_true rfl⟩) (by decide) 9 e17 rfl rfl hl.1 rfl (Nat.le_of_ble_eq_true rfl) dX9_mootThree_27 ⟨Nat.le_of_ble_eq_true rfl, Nat.le_of_ble_eq_true rfl⟩ (fun r f H locs hw hP hD hS => ?_)
        obtain ⟨hrs, x25, x26, y27, x28, hT, h29⟩ := hw
        obtain ⟨x30, rfl⟩ : ∃ q, q = r := ⟨_, rfl⟩
        have h31 := hrs
        refine lv_istore (lv' := [(6, .int x30), (5, .int v8_l5), (4, .int v8_l4), (3, .int v8_l3), (0, .ref (ad 148)), (1, .int p1), (2, .int p2)]) hx hb dX9_mootThree_30 hl (by decide) rfl (fun ls hl => ?_)
        refine lv_iload hx hb dX9_mootThree_32 (lv_at hl 0 rfl) ?_
        refine lv_iload_n hx hb dX9_mootThree_34 rfl (lv_at hl 3 rfl) ?_
        refine lv_icmp_lt (tgt := 41) hx hb dX9_mootThree_35 (by decide) (fun c32 => ?_) (fun c32 => ?_)
        · have kc32 := c_lt c32
          refine lv_iload hx hb dX9_mootThree_41 (lv_at hl 0 rfl) ?_
          refine lv_istore_n (lv' := [(3, .int x30), (6, .int x30), (5, .int v8_l5), (4, .int v8_l4), (0, .ref (ad 148)), (1, .int p1), (2, .int p2)]) hx hb dX9_mootThree_43 rfl hl (by decide) rfl (fun ls hl => ?_)
          refine lv_iload hx hb dX9_mootThree_44 (lv_at hl 2 rfl) ?_
          refine lv_istore (lv' := [(4, .int v8_l5), (3, .int x30), (6, .int x30), (5, .int v8_l5), (0, .ref (ad 148)), (1, .int p1), (2, .int p2)]) hx hb dX9_mootThree_46 hl (by decide) rfl (fun ls hl => ?_)
          exact j48 f H locs ls v8_l5 x30 x30 x25 x26 y27 x28 (by omega) (by omega) (by omega) (by omega) (by omega) (by omega) (by omega) hT hP hD hS (lv_sub hl [0, 1, 2, 3, 4, 5, 6] rfl)
        · have kc32 := c_nlt c32
          refine lv_goto (tgt := 48) hx hb dX9_mootThree_38 (by decide) ?_
          exact j48 f H locs ls v8_l4 v8_l3 x30 x25 x26 y27 x28 (by omega) (by omega) (by omega) (by omega) (by omega) (by omega) (by omega) hT hP hD hS (lv_sub hl [2, 3, 0, 1, 4, 5, 6] rfl)
  refine lv_iconst (v := 2) hx hb dX9_mootThree_0 (by decide) ?_
  refine lv_istore_n (lv' := [(3, .int 2), (0, .ref (ad 148)), (1, .int p1), (2, .int p2)]) hx hb dX9_mootThree_1 rfl hl (by decide) rfl (fun ls hl => ?_)
  refine lv_iconst (v := (-1)) hx hb dX9_mootThree_2 (by decide) ?_
  refine lv_istore (lv' := [(4, .int (-1)), (3, .int 2), (0, .ref (ad 148)), (1, .int p1), (2, .int p2)]) hx hb dX9_mootThree_3 hl (by decide) rfl (fun ls hl => ?_)
  refine lv_iconst (v := (-1)) hx hb dX9_mootThree_5 (by decide) ?_
  refine lv_istore (lv' := [(5, .int (-1)), (4, .int (-1)), (3, .int 2), (0, .ref (ad 148)), (1, .int p1), (2, .int p2)]) hx hb dX9_mootThree_6 hl (by decide) rfl (fun ls hl => ?_)
  have ttl_m1 := tl_m1
  have ttl_2 := tl_2
  exact j8 (Int.toNat (13 - ((-1) : Int32).toInt)) f H locs ls ((-1) : Int32) ((-1) : Int32) (2 : Int32) m_askStrand m_askTied c_roundOf m_firstMove (by omega) (by omega) (by omega) (by omega) (by omega) (by omega) hT hP hD hS (lv_sub hl [0, 1, 2, 3, 4, 5] rfl)
set_option maxHeartbeats 4000000 in
set_option maxRecDepth 100000 in
theorem s_X9_moot_0 (l : Launch) (B0 : Nat) (adK adV : Nat → Nat) (D : va_G) (cy : Nat → ClassId) (ad : Nat → Nat) (fr0 : Nat → va_E) (c_text : Nat → Int32) (m_taped : Int32) (m_size : Int32) (m_faultKind : Int32) (m_faultPlace : Int32) (m_at : Int32) (m_end : Int32) (m_token : Int32) (m_number : Int32) (m_name : Int64) (c_points : Nat → Int32) (c_strands : Nat → Int32) (c_units : Nat → Int32) (c_told : Nat → Int32) (c_ruleFrom : Nat → Int32) (c_ruleTo : Nat → Int32) (c_code : Nat → Int32) (c_eWhat : Nat → Int32) (c_eSign : Nat → Int32) (m_bank : Int32) (m_rb : Int32) (m_codes : Int32) (m_within : Int32) (m_piled : Int32) (m_unitsInRule : Int32) (m_askStrand : Int32) (m_askTied : Int32) (m_thoughtClaim : Int32) (m_thoughtNeed : Int32) (m_thoughtAll : Int32) (c_roundOf : Nat → Int32) (m_acts : Int32) (m_undone : Int32) (m_laid : Int32) (m_firstMove : Int32) (m_seens : Int32) (m_time : Int32) (m_waysNow : Int32) (m_fitting : Int32) (f : Nat → va_E) (hT : TYm ad cy fr0 c_text m_taped m_size m_faultKind m_faultPlace m_at m_end m_token m_number m_name c_points c_strands c_units c_told c_ruleFrom c_ruleTo c_code c_eWhat c_eSign m_bank m_rb m_codes m_within m_piled m_unitsInRule m_askStrand m_askTied m_thoughtClaim m_thoughtNeed m_thoughtAll c_roundOf m_acts m_undone m_laid m_firstMove m_seens m_time m_waysNow m_fitting f) (p1 : Int32) (p2 : Int32) (p3 : Int32) (hCV : CVp c_told c_ruleFrom c_ruleTo c_code m_bank) (sz : Nat) : TtI l yX9_moot wsX9_moot 11 260 [.ref (ad 148), .int p1, .int p2, .int p3] B0 adK adV D cy ad f sz (fun (r : Int32) (g : Nat → va_E) => True ∧ (∃ (m_askStrand' : Int32) (m_askTied' : Int32) (c_roundOf' : Nat → Int32) (m_firstMove' : Int32), TYm ad cy fr0 c_text m_taped m_size m_faultKind m_faultPlace m_at m_end m_token m_number m_name c_points c_strands c_units c_told c_ruleFrom c_ruleTo c_code c_eWhat c_eSign m_bank m_rb m_codes m_within m_piled m_unitsInRule m_askStrand' m_askTied' m_thoughtClaim m_thoughtNeed m_thoughtAll c_roundOf' m_acts m_undone m_laid m_firstMove' m_seens m_time m_waysNow m_fitting g)) := by
  refine TtI.of (cc := cX9_moot) (maxL := 5) (ty := .int) (own := RX9) (by decide) rfl (Nat.le_of_ble_eq_true rfl) rfl ?_
  intro p e s m below meth c A ls hx hb hr hml hts hown hlk hK hE hP hD hS hA hAB hl
  have hl : lv_has ls 5 [(0, .ref (ad 148)), (1, .int p1), (2, .int p2), (3, .int p3)] := hl
  refine st0 (fun H locs hP hS => ?_) hP hS
  have j80 : ∀ (f : Nat → va_E) (H : Heap) (locs : List Loc) (ls : Array Slot) (v80_s0 : Int32) (v80_p_m_askStrand : Int32) (v80_p_m_askTied : Int32) (v80_p_c_roundOf : Nat → Int32) (v80_p_m_firstMove : Int32), (0 ≤ p1.toInt ∧ p1.toInt ≤ 9) → (1 ≤ p2.toInt ∧ p2.toInt ≤ 3) → (0 ≤ p3.toInt ∧ p3.toInt ≤ 1) → (-1 ≤ v80_s0.toInt ∧ v80_s0.toInt ≤ 2) → (TYm ad cy fr0 c_text m_taped m_size m_faultKind m_faultPlace m_at m_end m_token m_number m_name c_points c_strands c_units c_told c_ruleFrom c_ruleTo c_code c_eWhat c_eSign m_bank m_rb m_codes m_within m_piled m_unitsInRule v80_p_m_askStrand v80_p_m_askTied m_thoughtClaim m_thoughtNeed m_thoughtAll v80_p_c_roundOf m_acts m_undone m_laid v80_p_m_firstMove m_seens m_time m_waysNow m_fitting f) → (va_P D vwCl (wl ad f) H) → (va_D A (wl ad f)) → (va_S A s.heap H locs) → (lv_has ls 5 [(0, .ref (ad 148)), (1, .int p1), (2, .int p2), (3, .int p3)]) → W p l e (rmO 11 260 0 0) s m ([.ref (ad 148), .int p1, .int p2, .int p3] : List Value).toArray below meth c H locs 0 0 (MQ below (va_Qi (fun (r : Int32) (g : Nat → va_E) => True ∧ (∃ (m_askStrand' : Int32) (m_askTied' : Int32) (c_roundOf' : Nat → Int32) (m_firstMove' : Int32), TYm ad cy fr0 c_text m_taped m_size m_faultKind m_faultPlace m_at m_end m_token m_number m_name c_points c_strands c_units c_told c_ruleFrom c_ruleTo c_code c_eWhat c_eSign m_bank m_rb m_codes m_within m_piled m_unitsInRule m_askStrand' m_askTied' m_thoughtClaim m_thoughtNeed m_thoughtAll c_roundOf' m_acts m_undone m_laid m_firstMove' m_seens m_time m_waysNow m_fitting g)) (fun g t => PstT D ad g t) A) ([.ref (ad 148), .int p1, .int p2, .int p3] : List Value).toArray s 0 0 A) (F0 m 80 ls [.int v80_s0]) := by
    intro f H locs ls v80_s0 v80_p_m_askStrand v80_p_m_askTied v80_p_c_roundOf v80_p_m_firstMove hv80_l1 hv80_l2 hv80_l3 hv80_s0 hT hP hD hS hl
    refine lv_istore (lv' := [(4, .int v80_s0), (0, .ref (ad 148)), (1, .int p1), (2, .int p2), (3, .int p3)]) hx hb dX9_moot_80 hl (by decide) rfl (fun ls hl => ?_)
    refine lv_iload_n hx hb dX9_moot_82 rfl (lv_at hl 4 rfl) ?_
    have ttl_0 := tl_0
    refine lv_if_ne (tgt := 91) hx hb dX9_moot_83 (by decide) (fun c1 => ?_) (fun c1 => ?_)
    · have kc1 := c_ne c1
      refine lv_aload_n hx hb dX9_moot_91 rfl (lv_at hl 1 rfl) ?_
      obtain ⟨e17, h2, h3, h4, h5, h6, h7, h8, h9, h10, h11, h12, h13, h14, h15, h16⟩ := (show okX9 ad m_taped m_size m_faultKind m_faultPlace m_at m_end m_token m_number m_name m_bank m_rb m_codes m_within m_piled m_unitsInRule v80_p_m_askStrand v80_p_m_askTied m_thoughtClaim m_thoughtNeed m_thoughtAll m_acts m_undone m_laid v80_p_m_firstMove m_seens m_time m_waysNow m_fitting 148 (f 148) from hT.1 148 (by decide))
      refine va_get (D := D) (cl := vwCl) (ci := 9) (v := .int v80_p_m_firstMove) (C := RX9) (T := TX9) (N := 64) hx hb hts in_X9_moot_X9 hown hK hP 148 (wl_at (by decide) e17) rfl 49 (by decide) (hts (.fieldLink RX9 464 "EightReasonsModel" "firstMove" "I") (List.mem_of_getElem? (i := 2) rfl)) (fun _ h9 => h9) rfl dX9_moot_92 ?_
      exact tI hx hb hr hlk rfl hP hS ⟨trivial, ⟨v80_p_m_askStrand, v80_p_m_askTied, v80_p_c_roundOf, v80_p_m_firstMove, hT⟩⟩ dX9_moot_95
    · have kc1 := c_eq c1
      refine lv_iload hx hb dX9_moot_86 (lv_at hl 0 rfl) ?_
      refine lv_goto (tgt := 95) hx hb dX9_moot_88 (by decide) ?_
      exact tI hx hb hr hlk rfl hP hS ⟨trivial, ⟨v80_p_m_askStrand, v80_p_m_askTied, v80_p_c_roundOf, v80_p_m_firstMove, hT⟩⟩ dX9_moot_95
  refine lv_aload_n hx hb dX9_moot_0 rfl (lv_at hl 0 rfl) ?_
  refine lv_iload_n hx hb dX9_moot_1 rfl (lv_at hl 1 rfl) ?_
  obtain ⟨e33, h18, h19, h20, h21, h22, h23, h24, h25, h26, h27, h28, h29, h30, h31, h32⟩ := (show okX9 ad m_taped m_size m_faultKind m_faultPlace m_at m_end m_token m_number m_name m_bank m_rb m_codes m_within m_piled m_unitsInRule m_askStrand m_askTied m_thoughtClaim m_thoughtNeed m_thoughtAll m_acts m_undone m_laid m_firstMove m_seens m_time m_waysNow m_fitting 148 (f 148) from hT.1 148 (by decide))
  refine tVI (As := [.int p1]) (rest := []) (i := 148) ⟨hx, hb, hml, hown, hts⟩ hK hE hP hD hS hA hAB (s_X9_isClaim_0 l B0 adK adV D cy ad fr0 c_text m_taped m_size m_faultKind m_faultPlace m_at m_end m_token m_number m_name c_points c_strands c_units c_told c_ruleFrom c_ruleTo c_code c_eWhat c_eSign m_bank m_rb m_codes m_within m_piled m_unitsInRule m_askStrand m_askTied m_thoughtClaim m_thoughtNeed m_thoughtAll c_roundOf m_acts m_undone m_laid m_firstMove m_seens m_time m_waysNow m_fitting f hT p1 _) (cwV 1 hts gX9_moot_X9_isClaim rfl rfl rfl (by decide +kernel) ⟨Nat.le_of_ble_eq_true rfl, Nat.le_of_ble_eq_true rfl⟩) (by decide) 9 e33 rfl rfl hl.1 rfl (Nat.le_of_ble_eq_true rfl) dX9_moot_2 ⟨Nat.le_of_ble_eq_true rfl, Nat.le_of_ble_eq_true rfl⟩ (fun r g H locs hw hP hD hS => ?_)
  obtain ⟨hrs, rfl⟩ := hw
  obtain ⟨x34, rfl⟩ : ∃ q, q = r := ⟨_, rfl⟩
  rcases hrs with ⟨rfl, h35, h36⟩ | rfl
  · refine lv_if_eq (tgt := 26) hx hb dX9_moot_5 (by decide) (fun c => absurd c (by decide)) (fun _ => ?_)
    refine lv_iload_n hx hb dX9_moot_8 rfl (lv_at hl 2 rfl) ?_
    refine lv_iconst (v := 1) hx hb dX9_moot_9 (by decide) ?_
    refine lv_iconst (v := 3) hx hb dX9_moot_10 (by decide) ?_
    have ttl_1 := tl_1
    have ttl_3 := tl_3
    refine tSI (As := [.int p2, .int 1, .int 3]) (rest := []) ⟨hx, hb, hml, hown, hts⟩ hK hE hP hD hS hA hAB (s_X9_isIn_0 l B0 adK adV D cy ad f p2 (1 : Int32) (by omega) (3 : Int32) (by omega) _) (va_cwS 3 hts gX9_moot_X9_isIn rfl rfl rfl (by decide +kernel) ⟨Nat.le_of_ble_eq_true rfl, Nat.le_of_ble_eq_true rfl⟩) rfl hl.1 rfl (Nat.le_of_ble_eq_true rfl) dX9_moot_11 ⟨Nat.le_of_ble_eq_true rfl, Nat.le_of_ble_eq_true rfl⟩ (fun r g H locs hw hP hD hS => ?_)
    obtain ⟨hrs, rfl⟩ := hw
    obtain ⟨x37, rfl⟩ : ∃ q, q = r := ⟨_, rfl⟩
    rcases hrs with ⟨rfl, h38, h39⟩ | rfl
    · refine lv_if_eq (tgt := 26) hx hb dX9_moot_14 (by decide) (fun c => absurd c (by decide)) (fun _ => ?_)
      refine lv_iload_n hx hb dX9_moot_17 rfl (lv_at hl 3 rfl) ?_
      refine lv_iconst (v := 0) hx hb dX9_moot_18 (by decide) ?_
      refine lv_iconst (v := 1) hx hb dX9_moot_19 (by decide) ?_
      have ttl_0 := tl_0
      refine tSI (As := [.int p3, .int 0, .int 1]) (rest := []) ⟨hx, hb, hml, hown, hts⟩ hK hE hP hD hS hA hAB (s_X9_isIn_0 l B0 adK adV D cy ad f p3 (0 : Int32) (by omega) (1 : Int32) (by omega) _) (va_cwS 3 hts gX9_moot_X9_isIn rfl rfl rfl (by decide +kernel) ⟨Nat.le_of_ble_eq_true rfl, Nat.le_of_ble_eq_true rfl⟩) rfl hl.1 rfl (Nat.le_of_ble_eq_true rfl) dX9_moot_20 ⟨Nat.le_of_ble_eq_true rfl, Nat.le_of_ble_eq_true rfl⟩ (fun r g H locs hw hP hD hS => ?_)
      obtain ⟨hrs, rfl⟩ := hw
      obtain ⟨x40, rfl⟩ : ∃ q, q = r := ⟨_, rfl⟩
      rcases hrs with ⟨rfl, h41, h42⟩ | rfl
      · refine lv_if_ne (tgt := 29) hx hb dX9_moot_23 (by decide) (fun _ => ?_) (fun c => absurd c (by decide))
        refine lv_iload_n hx hb dX9_moot_29 rfl (lv_at hl 2 rfl) ?_
        refine lv_iconst (v := 1) hx hb dX9_moot_30 (by decide) ?_
        refine lv_icmp_ne (tgt := 49) hx hb dX9_moot_31 (by decide) (fun c43 => ?_) (fun c43 => ?_)
        · have kc43 := c_ne c43
          refine lv_iload_n hx hb dX9_moot_49 rfl (lv_at hl 2 rfl) ?_
          refine lv_iconst (v := 2) hx hb dX9_moot_50 (by decide) ?_
          have ttl_2 := tl_2
          refine lv_icmp_ne (tgt := 69) hx hb dX9_moot_51 (by decide) (fun c44 => ?_) (fun c44 => ?_)
          · have kc44 := c_ne c44
            refine lv_aload_n hx hb dX9_moot_69 rfl (lv_at hl 0 rfl) ?_
            refine lv_iload_n hx hb dX9_moot_70 rfl (lv_at hl 1 rfl) ?_
            refine lv_aload_n hx hb dX9_moot_71 rfl (lv_at hl 0 rfl) ?_
            refine va_get (D := D) (cl := vwCl) (ci := 9) (v := .ref (ad 169)) (C := RX9) (T := TX9) (N := 64) hx hb hts in_X9_moot_X9 hown hK hP 148 (wl_at (by decide) e33) rfl 37 (by decide) (hts (.fieldLink RX9 76 "EightReasonsModel" "all" "[I") (List.mem_of_getElem? (i := 1) rfl)) (fun _ h9 => h9) rfl dX9_moot_72 ?_
            refine lv_iconst (v := 1) hx hb dX9_moot_75 (by decide) ?_
            obtain ⟨g47, e45, h46⟩ := (show okIr cy 16 (0) (4095) 16 1 (f 169) from hT.1 169 (by decide))
            refine va_iald hx hb hK hP 169 0 (wl_at (by decide) e45) rfl (vin (by decide)) dX9_moot_76 ?_
            refine lv_topi (fun x48 ex48 => ?_)
            have hx48 := r_el (h46 _ (by decide)) ex48
            refine tVI (As := [.int p1, .int x48]) (rest := []) (i := 148) ⟨hx, hb, hml, hown, hts⟩ hK hE hP hD hS hA hAB (s_X9_mootThree_0 l B0 adK adV D cy ad fr0 c_text m_taped m_size m_faultKind m_faultPlace m_at m_end m_token m_number m_name c_points c_strands c_units c_told c_ruleFrom c_ruleTo c_code c_eWhat c_eSign m_bank m_rb m_codes m_within m_piled m_unitsInRule m_askStrand m_askTied m_thoughtClaim m_thoughtNeed m_thoughtAll c_roundOf m_acts m_undone m_laid m_firstMove m_seens m_time m_waysNow m_fitting f hT p1 (by omega) x48 (by omega) hCV _) (cwV 2 hts gX9_moot_X9_mootThree rfl rfl rfl (by decide +kernel) ⟨Nat.le_of_ble_eq_true rfl, Nat.le_of_ble_eq_true rfl⟩) (by decide) 9 e33 rfl rfl hl.1 rfl (Nat.le_of_ble_eq_true rfl) dX9_moot_77 ⟨Nat.le_of_ble_eq_true rfl, Nat.le_of_ble_eq_true rfl⟩ (fun r f H locs hw hP hD hS => ?_)
            obtain ⟨hrs, x49, x50, y51, x52, hT, h53⟩ := hw
            obtain ⟨x54, rfl⟩ : ∃ q, q = r := ⟨_, rfl⟩
            have h55 := hrs
            exact j80 f H locs ls x54 x49 x50 y51 x52 (by omega) (by omega) (by omega) (by omega) hT hP hD hS (lv_sub hl [0, 1, 2, 3] rfl)
          · have kc44 := c_eq c44
            refine lv_aload_n hx hb dX9_moot_54 rfl (lv_at hl 0 rfl) ?_
            refine lv_iload_n hx hb dX9_moot_55 rfl (lv_at hl 1 rfl) ?_
            refine lv_aload_n hx hb dX9_moot_56 rfl (lv_at hl 0 rfl) ?_
            refine va_get (D := D) (cl := vwCl) (ci := 9) (v := .ref (ad 169)) (C := RX9) (T := TX9) (N := 64) hx hb hts in_X9_moot_X9 hown hK hP 148 (wl_at (by decide) e33) rfl 37 (by decide) (hts (.fieldLink RX9 76 "EightReasonsModel" "all" "[I") (List.mem_of_getElem? (i := 1) rfl)) (fun _ h9 => h9) rfl dX9_moot_57 ?_
            refine lv_iconst (v := 1) hx hb dX9_moot_60 (by decide) ?_
            obtain ⟨g58, e56, h57⟩ := (show okIr cy 16 (0) (4095) 16 1 (f 169) from hT.1 169 (by decide))
            refine va_iald hx hb hK hP 169 0 (wl_at (by decide) e56) rfl (vin (by decide)) dX9_moot_61 ?_
            refine lv_topi (fun x59 ex59 => ?_)
            have hx59 := r_el (h57 _ (by decide)) ex59
            refine lv_iconst (v := 1) hx hb dX9_moot_62 (by decide) ?_
            refine tVI (As := [.int p1, .int x59, .int 1]) (rest := []) (i := 148) ⟨hx, hb, hml, hown, hts⟩ hK hE hP hD hS hA hAB (s_X9_mootTwo_0 l B0 adK adV D cy ad fr0 c_text m_taped m_size m_faultKind m_faultPlace m_at m_end m_token m_number m_name c_points c_strands c_units c_told c_ruleFrom c_ruleTo c_code c_eWhat c_eSign m_bank m_rb m_codes m_within m_piled m_unitsInRule m_askStrand m_askTied m_thoughtClaim m_thoughtNeed m_thoughtAll c_roundOf m_acts m_undone m_laid m_firstMove m_seens m_time m_waysNow m_fitting f hT p1 (by omega) x59 (by omega) (1 : Int32) (by omega) hCV _) (cwV 3 hts gX9_moot_X9_mootTwo rfl rfl rfl (by decide +kernel) ⟨Nat.le_of_ble_eq_true rfl, Nat.le_of_ble_eq_true rfl⟩) (by decide) 9 e33 rfl rfl hl.1 rfl (Nat.le_of_ble_eq_true rfl) dX9_moot_63 ⟨Nat.le_of_ble_eq_true rfl, Nat.le_of_ble_eq_true rfl⟩ (fun r f H locs hw hP hD hS => ?_)
            obtain ⟨hrs, x60, x61, y62, x63, hT, h64⟩ := hw
            obtain ⟨x65, rfl⟩ : ∃ q, q = r := ⟨_, rfl⟩
            have h66 := hrs
            refine lv_goto (tgt := 80) hx hb dX9_moot_66 (by decide) ?_
            exact j80 f H locs ls x65 x60 x61 y62 x63 (by omega) (by omega) (by omega) (by omega) hT hP hD hS (lv_sub hl [0, 1, 2, 3] rfl)
        · have kc43 := c_eq c43
          refine lv_aload_n hx hb dX9_moot_34 rfl (lv_at hl 0 rfl) ?_
          refine lv_iload_n hx hb dX9_moot_35 rfl (lv_at hl 1 rfl) ?_
          refine lv_aload_n hx hb dX9_moot_36 rfl (lv_at hl 0 rfl) ?_
          refine va_get (D := D) (cl := vwCl) (ci := 9) (v := .ref (ad 169)) (C := RX9) (T := TX9) (N := 64) hx hb hts in_X9_moot_X9 hown hK hP 148 (wl_at (by decide) e33) rfl 37 (by decide) (hts (.fieldLink RX9 76 "EightReasonsModel" "all" "[I") (List.mem_of_getElem? (i := 1) rfl)) (fun _ h9 => h9) rfl dX9_moot_37 ?_
          refine lv_iconst (v := 1) hx hb dX9_moot_40 (by decide) ?_
          obtain ⟨g69, e67, h68⟩ := (show okIr cy 16 (0) (4095) 16 1 (f 169) from hT.1 169 (by decide))
          refine va_iald hx hb hK hP 169 0 (wl_at (by decide) e67) rfl (vin (by decide)) dX9_moot_41 ?_
          refine lv_topi (fun x70 ex70 => ?_)
          have hx70 := r_el (h68 _ (by decide)) ex70
          refine lv_iconst (v := 1) hx hb dX9_moot_42 (by decide) ?_
          refine tVI (As := [.int p1, .int x70, .int 1]) (rest := []) (i := 148) ⟨hx, hb, hml, hown, hts⟩ hK hE hP hD hS hA hAB (s_X9_mootLast_0 l B0 adK adV D cy ad fr0 c_text m_taped m_size m_faultKind m_faultPlace m_at m_end m_token m_number m_name c_points c_strands c_units c_told c_ruleFrom c_ruleTo c_code c_eWhat c_eSign m_bank m_rb m_codes m_within m_piled m_unitsInRule m_askStrand m_askTied m_thoughtClaim m_thoughtNeed m_thoughtAll c_roundOf m_acts m_undone m_laid m_firstMove m_seens m_time m_waysNow m_fitting f hT p1 (by omega) x70 (by omega) (1 : Int32) (by omega) hCV _) (cwV 3 hts gX9_moot_X9_mootLast rfl rfl rfl (by decide +kernel) ⟨Nat.le_of_ble_eq_true rfl, Nat.le_of_ble_eq_true rfl⟩) (by decide) 9 e33 rfl rfl hl.1 rfl (Nat.le_of_ble_eq_true rfl) dX9_moot_43 ⟨Nat.le_of_ble_eq_true rfl, Nat.le_of_ble_eq_true rfl⟩ (fun r f H locs hw hP hD hS => ?_)
          obtain ⟨hrs, x71, x72, y73, x74, hT⟩ := hw
          obtain ⟨x75, rfl⟩ : ∃ q, q = r := ⟨_, rfl⟩
          have h76 := hrs
          refine lv_goto (tgt := 80) hx hb dX9_moot_46 (by decide) ?_
          exact j80 f H locs ls x75 x71 x72 y73 x74 (by omega) (by omega) (by omega) (by omega) hT hP hD hS (lv_sub hl [0, 1, 2, 3] rfl)
      · refine lv_if_ne (tgt := 29) hx hb dX9_moot_23 (by decide) (fun c => absurd (by decide) c) (fun _ => ?_)
        refine lv_bipush (v := (-2)) hx hb dX9_moot_26 (by decide) ?_
        have ttl_m2 := tl_m2
        exact tI hx hb hr hlk rfl hP hS ⟨trivial, ⟨m_askStrand, m_askTied, c_roundOf, m_firstMove, hT⟩⟩ dX9_moot_28
    · refine lv_if_eq (tgt := 26) hx hb dX9_moot_14 (by decide) (fun _ => ?_) (fun c => absurd (by decide) c)
      refine lv_bipush (v := (-2)) hx hb dX9_moot_26 (by decide) ?_
      have ttl_m2 := tl_m2
      exact tI hx hb hr hlk rfl hP hS ⟨trivial, ⟨m_askStrand, m_askTied, c_roundOf, m_firstMove, hT⟩⟩ dX9_moot_28
  · refine lv_if_eq (tgt := 26) hx hb dX9_moot_5 (by decide) (fun _ => ?_) (fun c => absurd (by decide) c)
    refine lv_bipush (v := (-2)) hx hb dX9_moot_26 (by decide) ?_
    have ttl_m2 := tl_m2
    exact tI hx hb hr hlk rfl hP hS ⟨trivial, ⟨m_askStrand, m_askTied, c_roundOf, m_firstMove, hT⟩⟩ dX9_moot_28
set_option maxHeartbeats 4000000 in
set_option maxRecDepth 100000 in
theorem s_X9_fall_0 (l : Launch) (B0 : Nat) (adK adV : Nat → Nat) (D : va_G) (cy : Nat → ClassId) (ad : Nat → Nat) (fr0 : Nat → va_E) (c_text : Nat → Int32) (m_taped : Int32) (m_size : Int32) (m_faultKind : Int32) (m_faultPlace : Int32) (m_at : Int32) (m_end : Int32) (m_token : Int32) (m_number : Int32) (m_name : Int64) (c_points : Nat → Int32) (c_strands : Nat → Int32) (c_units : Nat → Int32) (c_told : Nat → Int32) (c_ruleFrom : Nat → Int32) (c_ruleTo : Nat → Int32) (c_code : Nat → Int32) (c_eWhat : Nat → Int32) (c_eSign : Nat → Int32) (m_bank : Int32) (m_rb : Int32) (m_codes : Int32) (m_within : Int32) (m_piled : Int32) (m_unitsInRule : Int32) (m_askStrand : Int32) (m_askTied : Int32) (m_thoughtClaim : Int32) (m_thoughtNeed : Int32) (m_thoughtAll : Int32) (c_roundOf : Nat → Int32) (m_acts : Int32) (m_undone : Int32) (m_laid : Int32) (m_firstMove : Int32) (m_seens : Int32) (m_time : Int32) (m_waysNow : Int32) (m_fitting : Int32) (f : Nat → va_E) (hT : TYm ad cy fr0 c_text m_taped m_size m_faultKind m_faultPlace m_at m_end m_token m_number m_name c_points c_strands c_units c_told c_ruleFrom c_ruleTo c_code c_eWhat c_eSign m_bank m_rb m_codes m_within m_piled m_unitsInRule m_askStrand m_askTied m_thoughtClaim m_thoughtNeed m_thoughtAll c_roundOf m_acts m_undone m_laid m_firstMove m_seens m_time m_waysNow m_fitting f) (p1 : Int32) (hCV : CVp c_told c_ruleFrom c_ruleTo c_code m_bank) (sz : Nat) : TtI l yX9_fall wsX9_fall 7 158 [.ref (ad 148), .int p1] B0 adK adV D cy ad f sz (fun (r : Int32) (g : Nat → va_E) => (-1 ≤ r.toInt ∧ r.toInt ≤ 60) ∧ (∃ (m_askStrand' : Int32) (m_askTied' : Int32) (c_roundOf' : Nat → Int32), TYm ad cy fr0 c_text m_taped m_size m_faultKind m_faultPlace m_at m_end m_token m_number m_name c_points c_strands c_units c_told c_ruleFrom c_ruleTo c_code c_eWhat c_eSign m_bank m_rb m_codes m_within m_piled m_unitsInRule m_askStrand' m_askTied' m_thoughtClaim m_thoughtNeed m_thoughtAll c_roundOf' m_acts m_undone m_laid m_firstMove m_seens m_time m_waysNow m_fitting g)) := by
  refine TtI.of (cc := cX9_fall) (maxL := 3) (ty := .int) (own := RX9) (by decide) rfl (Nat.le_of_ble_eq_true rfl) rfl ?_
  intro p e s m below meth c A ls hx hb hr hml hts hown hlk hK hE hP hD hS hA hAB hl
  have hl : lv_has ls 3 [(0, .ref (ad 148)), (1, .int p1)] := hl
  refine st0 (fun H locs hP hS => ?_) hP hS
  have j50 : ∀ (f : Nat → va_E) (H : Heap) (locs : List Loc) (ls : Array Slot) (v50_l2 : Int32) (v50_p_m_askStrand : Int32) (v50_p_m_askTied : Int32) (v50_p_c_roundOf : Nat → Int32), (0 ≤ v50_l2.toInt ∧ v50_l2.toInt ≤ 63) → (0 ≤ p1.toInt ∧ p1.toInt ≤ 9) → (TYm ad cy fr0 c_text m_taped m_size m_faultKind m_faultPlace m_at m_end m_token m_number m_name c_points c_strands c_units c_told c_ruleFrom c_ruleTo c_code c_eWhat c_eSign m_bank m_rb m_codes m_within m_piled m_unitsInRule v50_p_m_askStrand v50_p_m_askTied m_thoughtClaim m_thoughtNeed m_thoughtAll v50_p_c_roundOf m_acts m_undone m_laid m_firstMove m_seens m_time m_waysNow m_fitting f) → (va_P D vwCl (wl ad f) H) → (va_D A (wl ad f)) → (va_S A s.heap H locs) → (lv_has ls 3 [(2, .int v50_l2), (0, .ref (ad 148)), (1, .int p1)]) → W p l e (rmO 7 158 0 0) s m ([.ref (ad 148), .int p1] : List Value).toArray below meth c H locs 0 0 (MQ below (va_Qi (fun (r : Int32) (g : Nat → va_E) => (-1 ≤ r.toInt ∧ r.toInt ≤ 60) ∧ (∃ (m_askStrand' : Int32) (m_askTied' : Int32) (c_roundOf' : Nat → Int32), TYm ad cy fr0 c_text m_taped m_size m_faultKind m_faultPlace m_at m_end m_token m_number m_name c_points c_strands c_units c_told c_ruleFrom c_ruleTo c_code c_eWhat c_eSign m_bank m_rb m_codes m_within m_piled m_unitsInRule m_askStrand' m_askTied' m_thoughtClaim m_thoughtNeed m_thoughtAll c_roundOf' m_acts m_undone m_laid m_firstMove m_seens m_time m_waysNow m_fitting g)) (fun g t => PstT D ad g t) A) ([.ref (ad 148), .int p1] : List Value).toArray s 0 0 A) (F0 m 50 ls []) := by
    intro f H locs ls v50_l2 v50_p_m_askStrand v50_p_m_askTied v50_p_c_roundOf hv50_l2 hv50_l1 hT hP hD hS hl
    refine lv_aload_n hx hb dX9_fall_50 rfl (lv_at hl 1 rfl) ?_
    obtain ⟨e16, h1, h2, h3, h4, h5, h6, h7, h8, h9, h10, h11, h12, h13, h14, h15⟩ := (show okX9 ad m_taped m_size m_faultKind m_faultPlace m_at m_end m_token m_number m_name m_bank m_rb m_codes m_within m_piled m_unitsInRule v50_p_m_askStrand v50_p_m_askTied m_thoughtClaim m_thoughtNeed m_thoughtAll m_acts m_undone m_laid m_firstMove m_seens m_time m_waysNow m_fitting 148 (f 148) from hT.1 148 (by decide))
    refine tVV (As := []) (rest := []) (i := 148) ⟨hx, hb, hml, hown, hts⟩ hK hE hP hD hS hA hAB (s_X9_bringBack_0 l B0 adK adV D cy ad fr0 c_text m_taped m_size m_faultKind m_faultPlace m_at m_end m_token m_number m_name c_points c_strands c_units c_told c_ruleFrom c_ruleTo c_code c_eWhat c_eSign m_bank m_rb m_codes m_within m_piled m_unitsInRule v50_p_m_askStrand v50_p_m_askTied m_thoughtClaim m_thoughtNeed m_thoughtAll v50_p_c_roundOf m_acts m_undone m_laid m_firstMove m_seens m_time m_waysNow m_fitting f hT _) (cwV 0 hts gX9_fall_X9_bringBack rfl rfl rfl (by decide +kernel) ⟨Nat.le_of_ble_eq_true rfl, Nat.le_of_ble_eq_true rfl⟩) (by decide) 9 e16 rfl rfl hl.1 rfl (Nat.le_of_ble_eq_true rfl) dX9_fall_51 ⟨Nat.le_of_ble_eq_true rfl, Nat.le_of_ble_eq_true rfl⟩ (fun f H locs hw hP hD hS => ?_)
    obtain ⟨hrs, hT⟩ := hw
    refine lv_iload_n hx hb dX9_fall_54 rfl (lv_at hl 0 rfl) ?_
    refine lv_bipush (v := 60) hx hb dX9_fall_55 (by decide) ?_
    have ttl_60 := tl_60
    refine lv_icmp_gt (tgt := 64) hx hb dX9_fall_57 (by decide) (fun c17 => ?_) (fun c17 => ?_)
    · have kc17 := c_lt c17
      refine lv_iconst (v := (-1)) hx hb dX9_fall_64 (by decide) ?_
      have ttl_m1 := tl_m1
      exact tI hx hb hr hlk rfl hP hS ⟨(by omega), ⟨v50_p_m_askStrand, v50_p_m_askTied, v50_p_c_roundOf, hT⟩⟩ dX9_fall_65
    · have kc17 := c_nlt c17
      refine lv_iload_n hx hb dX9_fall_60 rfl (lv_at hl 0 rfl) ?_
      refine lv_goto (tgt := 65) hx hb dX9_fall_61 (by decide) ?_
      exact tI hx hb hr hlk rfl hP hS ⟨(by omega), ⟨v50_p_m_askStrand, v50_p_m_askTied, v50_p_c_roundOf, hT⟩⟩ dX9_fall_65
  have j16 : ∀ (N : Nat) (f : Nat → va_E) (H : Heap) (locs : List Loc) (ls : Array Slot) (v16_l2 : Int32) (v16_p_m_askStrand : Int32) (v16_p_m_askTied : Int32) (v16_p_c_roundOf : Nat → Int32), (64 - v16_l2.toInt ≤ (N : Int)) → (0 ≤ v16_l2.toInt ∧ v16_l2.toInt ≤ 63) → (0 ≤ p1.toInt ∧ p1.toInt ≤ 9) → (TYm ad cy fr0 c_text m_taped m_size m_faultKind m_faultPlace m_at m_end m_token m_number m_name c_points c_strands c_units c_told c_ruleFrom c_ruleTo c_code c_eWhat c_eSign m_bank m_rb m_codes m_within m_piled m_unitsInRule v16_p_m_askStrand v16_p_m_askTied m_thoughtClaim m_thoughtNeed m_thoughtAll v16_p_c_roundOf m_acts m_undone m_laid m_firstMove m_seens m_time m_waysNow m_fitting f) → (va_P D vwCl (wl ad f) H) → (va_D A (wl ad f)) → (va_S A s.heap H locs) → (lv_has ls 3 [(2, .int v16_l2), (0, .ref (ad 148)), (1, .int p1)]) → W p l e (rmO 7 158 0 0) s m ([.ref (ad 148), .int p1] : List Value).toArray below meth c H locs 0 0 (MQ below (va_Qi (fun (r : Int32) (g : Nat → va_E) => (-1 ≤ r.toInt ∧ r.toInt ≤ 60) ∧ (∃ (m_askStrand' : Int32) (m_askTied' : Int32) (c_roundOf' : Nat → Int32), TYm ad cy fr0 c_text m_taped m_size m_faultKind m_faultPlace m_at m_end m_token m_number m_name c_points c_strands c_units c_told c_ruleFrom c_ruleTo c_code c_eWhat c_eSign m_bank m_rb m_codes m_within m_piled m_unitsInRule m_askStrand' m_askTied' m_thoughtClaim m_thoughtNeed m_thoughtAll c_roundOf' m_acts m_undone m_laid m_firstMove m_seens m_time m_waysNow m_fitting g)) (fun g t => PstT D ad g t) A) ([.ref (ad 148), .int p1] : List Value).toArray s 0 0 A) (F0 m 16 ls []) := by
    intro N
    induction N with
    | zero => intro f H locs ls v16_l2 v16_p_m_askStrand v16_p_m_askTied v16_p_c_roundOf hN hv16_l2 hv16_l1 hT hP hD hS hl; exact absurd hN (by omega)
    | succ N ih16 =>
      intro f H locs ls v16_l2 v16_p_m_askStrand v16_p_m_askTied v16_p_c_roundOf hN hv16_l2 hv16_l1 hT hP hD hS hl
      refine lv_iload_n hx hb dX9_fall_16 rfl (lv_at hl 0 rfl) ?_
      refine lv_bipush (v := 60) hx hb dX9_fall_17 (by decide) ?_
      have ttl_60 := tl_60
      refine lv_icmp_gt (tgt := 50) hx hb dX9_fall_19 (by decide) (fun c18 => ?_) (fun c18 => ?_)
      · have kc18 := c_lt c18
        exact j50 f H locs ls v16_l2 v16_p_m_askStrand v16_p_m_askTied v16_p_c_roundOf (by omega) (by omega) hT hP hD hS (lv_sub hl [0, 1, 2] rfl)
      · have kc18 := c_nlt c18
        refine lv_aload_n hx hb dX9_fall_22 rfl (lv_at hl 1 rfl) ?_
        obtain ⟨e34, h19, h20, h21, h22, h23, h24, h25, h26, h27, h28, h29, h30, h31, h32, h33⟩ := (show okX9 ad m_taped m_size m_faultKind m_faultPlace m_at m_end m_token m_number m_name m_bank m_rb m_codes m_within m_piled m_unitsInRule v16_p_m_askStrand v16_p_m_askTied m_thoughtClaim m_thoughtNeed m_thoughtAll m_acts m_undone m_laid m_firstMove m_seens m_time m_waysNow m_fitting 148 (f 148) from hT.1 148 (by decide))
        refine tVI (As := []) (rest := []) (i := 148) ⟨hx, hb, hml, hown, hts⟩ hK hE hP hD hS hA hAB (s_X9_standNow_0 l B0 adK adV D cy ad fr0 c_text m_taped m_size m_faultKind m_faultPlace m_at m_end m_token m_number m_name c_points c_strands c_units c_told c_ruleFrom c_ruleTo c_code c_eWhat c_eSign m_bank m_rb m_codes m_within m_piled m_unitsInRule v16_p_m_askStrand v16_p_m_askTied m_thoughtClaim m_thoughtNeed m_thoughtAll v16_p_c_roundOf m_acts m_undone m_laid m_firstMove m_seens m_time m_waysNow m_fitting f hT hCV _) (cwV 0 hts gX9_fall_X9_standNow rfl rfl rfl (by decide +kernel) ⟨Nat.le_of_ble_eq_true rfl, Nat.le_of_ble_eq_true rfl⟩) (by decide) 9 e34 rfl rfl hl.1 rfl (Nat.le_of_ble_eq_true rfl) dX9_fall_23 ⟨Nat.le_of_ble_eq_true rfl, Nat.le_of_ble_eq_true rfl⟩ (fun r f H locs hw hP hD hS => ?_)
        obtain ⟨hrs, x35, x36, y37, hT, h38⟩ := hw
        obtain ⟨x39, rfl⟩ : ∃ q, q = r := ⟨_, rfl⟩
        have h40 := hrs
        refine lv_iload_n hx hb dX9_fall_26 rfl (lv_at hl 2 rfl) ?_
        refine tSI (As := [.int x39, .int p1]) (rest := []) ⟨hx, hb, hml, hown, hts⟩ hK hE hP hD hS hA hAB (s_X9_bit_0 l B0 adK adV D cy ad f x39 p1 (by omega) _) (va_cwS 2 hts gX9_fall_X9_bit rfl rfl rfl (by decide +kernel) ⟨Nat.le_of_ble_eq_true rfl, Nat.le_of_ble_eq_true rfl⟩) rfl hl.1 rfl (Nat.le_of_ble_eq_true rfl) dX9_fall_27 ⟨Nat.le_of_ble_eq_true rfl, Nat.le_of_ble_eq_true rfl⟩ (fun r g H locs hw hP hD hS => ?_)
        obtain ⟨hrs, rfl⟩ := hw
        obtain ⟨x41, rfl⟩ : ∃ q, q = r := ⟨_, rfl⟩
        rcases hrs with ⟨rfl, h42⟩ | ⟨rfl, h43⟩
        · refine lv_if_eq (tgt := 50) hx hb dX9_fall_30 (by decide) (fun c => absurd c (by decide)) (fun _ => ?_)
          refine lv_aload_n hx hb dX9_fall_33 rfl (lv_at hl 1 rfl) ?_
          obtain ⟨e59, h44, h45, h46, h47, h48, h49, h50, h51, h52, h53, h54, h55, h56, h57, h58⟩ := (show okX9 ad m_taped m_size m_faultKind m_faultPlace m_at m_end m_token m_number m_name m_bank m_rb m_codes m_within m_piled m_unitsInRule x35 x36 m_thoughtClaim m_thoughtNeed m_thoughtAll m_acts m_undone m_laid m_firstMove m_seens m_time m_waysNow m_fitting 148 (f 148) from hT.1 148 (by decide))
          refine va_get (D := D) (cl := vwCl) (ci := 9) (v := .ref (ad 169)) (C := RX9) (T := TX9) (N := 64) hx hb hts in_X9_fall_X9 hown hK hP 148 (wl_at (by decide) e59) rfl 37 (by decide) (hts (.fieldLink RX9 76 "EightReasonsModel" "all" "[I") (List.mem_of_getElem? (i := 1) rfl)) (fun _ h9 => h9) rfl dX9_fall_34 ?_
          refine lv_bipush (v := 14) hx hb dX9_fall_37 (by decide) ?_
          refine lv_dup2_11 hx hb dX9_fall_39 rfl rfl ?_
          obtain ⟨g62, e60, h61⟩ := (show okIr cy 16 (0) (4095) 16 1 (f 169) from hT.1 169 (by decide))
          have ttl_14 := tl_14
          refine va_iald hx hb hK hP 169 0 (wl_at (by decide) e60) rfl (vin (by decide)) dX9_fall_40 ?_
          refine lv_topi (fun x63 ex63 => ?_)
          refine lv_iconst (v := 1) hx hb dX9_fall_41 (by decide) ?_
          refine lv_iadd hx hb dX9_fall_42 ?_
          refine lv_topi (fun x64 ex64 => ?_)
          refine va_iast hx hb hK hP hD hS 169 0 (wl_at (by decide) e60) rfl (vin (by decide)) dX9_fall_43 (fun H locs hP hD hS => ?_)
          obtain ⟨f, hT, hP, hD, e65, hj66⟩ := stU (by decide) (TYm.up hT (by decide) (show OKm ad cy c_text m_taped m_size m_faultKind m_faultPlace m_at m_end m_token m_number m_name c_points c_strands c_units c_told c_ruleFrom c_ruleTo c_code c_eWhat c_eSign m_bank m_rb m_codes m_within m_piled m_unitsInRule x35 x36 m_thoughtClaim m_thoughtNeed m_thoughtAll y37 m_acts m_undone m_laid m_firstMove m_seens m_time m_waysNow m_fitting 169 _ from (show okIr cy 16 (0) (4095) 16 1 _ from ⟨_, rfl, upd_r h61 (fun q => absurd q (by decide))⟩))) hP hD
          have e67 := (hj66 148 (by decide)).trans e59
          obtain ⟨x68, ex68⟩ : ∃ q : Int32, q = v16_l2 + Int32.ofInt (1) := ⟨_, rfl⟩
          refine lv_iinc (v := x68) (lv' := [(2, .int x68), (0, .ref (ad 148)), (1, .int p1)]) hx hb dX9_fall_44 hl (k := 0) rfl ex68.symm (by decide) rfl (fun ls hl => ?_)
          have hx68 := r_inc ex68 (by decide) (by omega) (by omega)
          refine lv_goto (tgt := 16) hx hb dX9_fall_47 (by decide) ?_
          exact ih16 f H locs ls x68 x35 x36 y37 (by omega) (by omega) (by omega) hT hP hD hS (lv_sub hl [0, 1, 2] rfl)
        · refine lv_if_eq (tgt := 50) hx hb dX9_fall_30 (by decide) (fun _ => ?_) (fun c => absurd (by decide) c)
          exact j50 f H locs ls v16_l2 x35 x36 y37 (by omega) (by omega) hT hP hD hS (lv_sub hl [0, 1, 2] rfl)
  refine lv_aload_n hx hb dX9_fall_0 rfl (lv_at hl 0 rfl) ?_
  refine lv_iload_n hx hb dX9_fall_1 rfl (lv_at hl 1 rfl) ?_
  obtain ⟨e84, h69, h70, h71, h72, h73, h74, h75, h76, h77, h78, h79, h80, h81, h82, h83⟩ := (show okX9 ad m_taped m_size m_faultKind m_faultPlace m_at m_end m_token m_number m_name m_bank m_rb m_codes m_within m_piled m_unitsInRule m_askStrand m_askTied m_thoughtClaim m_thoughtNeed m_thoughtAll m_acts m_undone m_laid m_firstMove m_seens m_time m_waysNow m_fitting 148 (f 148) from hT.1 148 (by decide))
  refine tVI (As := [.int p1]) (rest := []) (i := 148) ⟨hx, hb, hml, hown, hts⟩ hK hE hP hD hS hA hAB (s_X9_isClaim_0 l B0 adK adV D cy ad fr0 c_text m_taped m_size m_faultKind m_faultPlace m_at m_end m_token m_number m_name c_points c_strands c_units c_told c_ruleFrom c_ruleTo c_code c_eWhat c_eSign m_bank m_rb m_codes m_within m_piled m_unitsInRule m_askStrand m_askTied m_thoughtClaim m_thoughtNeed m_thoughtAll c_roundOf m_acts m_undone m_laid m_firstMove m_seens m_time m_waysNow m_fitting f hT p1 _) (cwV 1 hts gX9_fall_X9_isClaim rfl rfl rfl (by decide +kernel) ⟨Nat.le_of_ble_eq_true rfl, Nat.le_of_ble_eq_true rfl⟩) (by decide) 9 e84 rfl rfl hl.1 rfl (Nat.le_of_ble_eq_true rfl) dX9_fall_2 ⟨Nat.le_of_ble_eq_true rfl, Nat.le_of_ble_eq_true rfl⟩ (fun r g H locs hw hP hD hS => ?_)
  obtain ⟨hrs, rfl⟩ := hw
  obtain ⟨x85, rfl⟩ : ∃ q, q = r := ⟨_, rfl⟩
  rcases hrs with ⟨rfl, h86, h87⟩ | rfl
  · refine lv_if_ne (tgt := 10) hx hb dX9_fall_5 (by decide) (fun _ => ?_) (fun c => absurd c (by decide))
    refine lv_aload_n hx hb dX9_fall_10 rfl (lv_at hl 0 rfl) ?_
    refine tVV (As := []) (rest := []) (i := 148) ⟨hx, hb, hml, hown, hts⟩ hK hE hP hD hS hA hAB (s_X9_keepNow_0 l B0 adK adV D cy ad fr0 c_text m_taped m_size m_faultKind m_faultPlace m_at m_end m_token m_number m_name c_points c_strands c_units c_told c_ruleFrom c_ruleTo c_code c_eWhat c_eSign m_bank m_rb m_codes m_within m_piled m_unitsInRule m_askStrand m_askTied m_thoughtClaim m_thoughtNeed m_thoughtAll c_roundOf m_acts m_undone m_laid m_firstMove m_seens m_time m_waysNow m_fitting f hT _) (cwV 0 hts gX9_fall_X9_keepNow rfl rfl rfl (by decide +kernel) ⟨Nat.le_of_ble_eq_true rfl, Nat.le_of_ble_eq_true rfl⟩) (by decide) 9 e84 rfl rfl hl.1 rfl (Nat.le_of_ble_eq_true rfl) dX9_fall_11 ⟨Nat.le_of_ble_eq_true rfl, Nat.le_of_ble_eq_true rfl⟩ (fun f H locs hw hP hD hS => ?_)
    obtain ⟨hrs, hT⟩ := hw
    refine lv_iconst (v := 0) hx hb dX9_fall_14 (by decide) ?_
    refine lv_istore_n (lv' := [(2, .int 0), (0, .ref (ad 148)), (1, .int p1)]) hx hb dX9_fall_15 rfl hl (by decide) rfl (fun ls hl => ?_)
    have ttl_0 := tl_0
    exact j16 (Int.toNat (64 - (0 : Int32).toInt)) f H locs ls (0 : Int32) m_askStrand m_askTied c_roundOf (by omega) (by omega) (by omega) hT hP hD hS (lv_sub hl [0, 1, 2] rfl)
  · refine lv_if_ne (tgt := 10) hx hb dX9_fall_5 (by decide) (fun c => absurd (by decide) c) (fun _ => ?_)
    refine lv_iconst (v := (-1)) hx hb dX9_fall_8 (by decide) ?_
    have ttl_m1 := tl_m1
    exact tI hx hb hr hlk rfl hP hS ⟨(by omega), ⟨m_askStrand, m_askTied, c_roundOf, hT⟩⟩ dX9_fall_9
set_option maxHeartbeats 4000000 in
set_option maxRecDepth 100000 in
theorem s_X9_without_0 (l : Launch) (B0 : Nat) (adK adV : Nat → Nat) (D : va_G) (cy : Nat → ClassId) (ad : Nat → Nat) (fr0 : Nat → va_E) (c_text : Nat → Int32) (m_taped : Int32) (m_size : Int32) (m_faultKind : Int32) (m_faultPlace : Int32) (m_at : Int32) (m_end : Int32) (m_token : Int32) (m_number : Int32) (m_name : Int64) (c_points : Nat → Int32) (c_strands : Nat → Int32) (c_units : Nat → Int32) (c_told : Nat → Int32) (c_ruleFrom : Nat → Int32) (c_ruleTo : Nat → Int32) (c_code : Nat → Int32) (c_eWhat : Nat → Int32) (c_eSign : Nat → Int32) (m_bank : Int32) (m_rb : Int32) (m_codes : Int32) (m_within : Int32) (m_piled : Int32) (m_unitsInRule : Int32) (m_askStrand : Int32) (m_askTied : Int32) (m_thoughtClaim : Int32) (m_thoughtNeed : Int32) (m_thoughtAll : Int32) (c_roundOf : Nat → Int32) (m_acts : Int32) (m_undone : Int32) (m_laid : Int32) (m_firstMove : Int32) (m_seens : Int32) (m_time : Int32) (m_waysNow : Int32) (m_fitting : Int32) (f : Nat → va_E) (hT : TYm ad cy fr0 c_text m_taped m_size m_faultKind m_faultPlace m_at m_end m_token m_number m_name c_points c_strands c_units c_told c_ruleFrom c_ruleTo c_code c_eWhat c_eSign m_bank m_rb m_codes m_within m_piled m_unitsInRule m_askStrand m_askTied m_thoughtClaim m_thoughtNeed m_thoughtAll c_roundOf m_acts m_undone m_laid m_firstMove m_seens m_time m_waysNow m_fitting f) (p1 : Int32) (hp1 : 0 ≤ p1.toInt ∧ p1.toInt ≤ 9) (hCV : CVp c_told c_ruleFrom c_ruleTo c_code m_bank) (sz : Nat) : TtI l yX9_without wsX9_without 6 138 [.ref (ad 148), .int p1] B0 adK adV D cy ad f sz (fun (r : Int32) (g : Nat → va_E) => (0 ≤ r.toInt ∧ r.toInt ≤ 1023) ∧ (∃ (m_askStrand' : Int32) (m_askTied' : Int32) (c_roundOf' : Nat → Int32), TYm ad cy fr0 c_text m_taped m_size m_faultKind m_faultPlace m_at m_end m_token m_number m_name c_points c_strands c_units c_told c_ruleFrom c_ruleTo c_code c_eWhat c_eSign m_bank m_rb m_codes m_within m_piled m_unitsInRule m_askStrand' m_askTied' m_thoughtClaim m_thoughtNeed m_thoughtAll c_roundOf' m_acts m_undone m_laid m_firstMove m_seens m_time m_waysNow m_fitting g ∧ (0 ≤ m_askTied'.toInt ∧ m_askTied'.toInt ≤ 4095))) := by
  refine TtI.of (cc := cX9_without) (maxL := 2) (ty := .int) (own := RX9) (by decide) rfl (Nat.le_of_ble_eq_true rfl) rfl ?_
  intro p e s m below meth c A ls hx hb hr hml hts hown hlk hK hE hP hD hS hA hAB hl
  have hl : lv_has ls 2 [(0, .ref (ad 148)), (1, .int p1)] := hl
  refine st0 (fun H locs hP hS => ?_) hP hS
  refine lv_aload_n hx hb dX9_without_0 rfl (lv_at hl 0 rfl) ?_
  refine lv_aload_n hx hb dX9_without_1 rfl (lv_at hl 0 rfl) ?_
  obtain ⟨e16, h1, h2, h3, h4, h5, h6, h7, h8, h9, h10, h11, h12, h13, h14, h15⟩ := (show okX9 ad m_taped m_size m_faultKind m_faultPlace m_at m_end m_token m_number m_name m_bank m_rb m_codes m_within m_piled m_unitsInRule m_askStrand m_askTied m_thoughtClaim m_thoughtNeed m_thoughtAll m_acts m_undone m_laid m_firstMove m_seens m_time m_waysNow m_fitting 148 (f 148) from hT.1 148 (by decide))
  refine va_get (D := D) (cl := vwCl) (ci := 9) (v := .ref (ad 169)) (C := RX9) (T := TX9) (N := 64) hx hb hts in_X9_without_X9 hown hK hP 148 (wl_at (by decide) e16) rfl 37 (by decide) (hts (.fieldLink RX9 76 "EightReasonsModel" "all" "[I") (List.mem_of_getElem? (i := 1) rfl)) (fun _ h9 => h9) rfl dX9_without_2 ?_
  refine lv_iconst (v := 0) hx hb dX9_without_5 (by decide) ?_
  obtain ⟨g19, e17, h18⟩ := (show okIr cy 16 (0) (4095) 16 1 (f 169) from hT.1 169 (by decide))
  have ttl_0 := tl_0
  refine va_iald hx hb hK hP 169 0 (wl_at (by decide) e17) rfl (vin (by decide)) dX9_without_6 ?_
  refine lv_topi (fun x20 ex20 => ?_)
  refine lv_iconst (v := 1) hx hb dX9_without_7 (by decide) ?_
  refine lv_iload_n hx hb dX9_without_8 rfl (lv_at hl 1 rfl) ?_
  refine lv_ishl hx hb dX9_without_9 ?_
  refine lv_topi (fun x21 ex21 => ?_)
  have hx21 := r_shl (K := 9) (M := 512) ex21 (by decide) (by decide) (by omega) (by omega)
  refine lv_ior hx hb dX9_without_10 ?_
  refine lv_topi (fun x22 ex22 => ?_)
  refine lv_aload_n hx hb dX9_without_11 rfl (lv_at hl 0 rfl) ?_
  refine va_get (D := D) (cl := vwCl) (ci := 9) (v := .ref (ad 169)) (C := RX9) (T := TX9) (N := 64) hx hb hts in_X9_without_X9 hown hK hP 148 (wl_at (by decide) e16) rfl 37 (by decide) (hts (.fieldLink RX9 76 "EightReasonsModel" "all" "[I") (List.mem_of_getElem? (i := 1) rfl)) (fun _ h9 => h9) rfl dX9_without_12 ?_
  refine lv_iconst (v := 1) hx hb dX9_without_15 (by decide) ?_
  have ttl_1 := tl_1
  refine va_iald hx hb hK hP 169 0 (wl_at (by decide) e17) rfl (vin (by decide)) dX9_without_16 ?_
  refine lv_topi (fun x23 ex23 => ?_)
  have hx23 := r_el (h18 _ (by decide)) ex23
  refine tVI (As := [.int x22, .int x23]) (rest := []) (i := 148) ⟨hx, hb, hml, hown, hts⟩ hK hE hP hD hS hA hAB (s_X9_standBy_0 l B0 adK adV D cy ad fr0 c_text m_taped m_size m_faultKind m_faultPlace m_at m_end m_token m_number m_name c_points c_strands c_units c_told c_ruleFrom c_ruleTo c_code c_eWhat c_eSign m_bank m_rb m_codes m_within m_piled m_unitsInRule m_askStrand m_askTied m_thoughtClaim m_thoughtNeed m_thoughtAll c_roundOf m_acts m_undone m_laid m_firstMove m_seens m_time m_waysNow m_fitting f hT x22 x23 (by omega) hCV _) (cwV 2 hts gX9_without_X9_standBy rfl rfl rfl (by decide +kernel) ⟨Nat.le_of_ble_eq_true rfl, Nat.le_of_ble_eq_true rfl⟩) (by decide) 9 e16 rfl rfl hl.1 rfl (Nat.le_of_ble_eq_true rfl) dX9_without_17 ⟨Nat.le_of_ble_eq_true rfl, Nat.le_of_ble_eq_true rfl⟩ (fun r f H locs hw hP hD hS => ?_)
  obtain ⟨hrs, x24, x25, y26, hT, h27⟩ := hw
  obtain ⟨x28, rfl⟩ : ∃ q, q = r := ⟨_, rfl⟩
  have h29 := hrs
  refine lv_aload_n hx hb dX9_without_20 rfl (lv_at hl 0 rfl) ?_
  obtain ⟨e45, h30, h31, h32, h33, h34, h35, h36, h37, h38, h39, h40, h41, h42, h43, h44⟩ := (show okX9 ad m_taped m_size m_faultKind m_faultPlace m_at m_end m_token m_number m_name m_bank m_rb m_codes m_within m_piled m_unitsInRule x24 x25 m_thoughtClaim m_thoughtNeed m_thoughtAll m_acts m_undone m_laid m_firstMove m_seens m_time m_waysNow m_fitting 148 (f 148) from hT.1 148 (by decide))
  refine tVI (As := []) (rest := [.int x28]) (i := 148) ⟨hx, hb, hml, hown, hts⟩ hK hE hP hD hS hA hAB (s_X9_claims_0 l B0 adK adV D cy ad fr0 c_text m_taped m_size m_faultKind m_faultPlace m_at m_end m_token m_number m_name c_points c_strands c_units c_told c_ruleFrom c_ruleTo c_code c_eWhat c_eSign m_bank m_rb m_codes m_within m_piled m_unitsInRule x24 x25 m_thoughtClaim m_thoughtNeed m_thoughtAll y26 m_acts m_undone m_laid m_firstMove m_seens m_time m_waysNow m_fitting f hT _) (cwV 0 hts gX9_without_X9_claims rfl rfl rfl (by decide +kernel) ⟨Nat.le_of_ble_eq_true rfl, Nat.le_of_ble_eq_true rfl⟩) (by decide) 9 e45 rfl rfl hl.1 rfl (Nat.le_of_ble_eq_true rfl) dX9_without_21 ⟨Nat.le_of_ble_eq_true rfl, Nat.le_of_ble_eq_true rfl⟩ (fun r g H locs hw hP hD hS => ?_)
  obtain ⟨hrs, rfl⟩ := hw
  obtain ⟨x46, rfl⟩ : ∃ q, q = r := ⟨_, rfl⟩
  have h47 := hrs
  refine lv_iand hx hb dX9_without_24 ?_
  refine lv_topi (fun x48 ex48 => ?_)
  have hx48 := r_andr ex48 (by omega)
  exact tI hx hb hr hlk rfl hP hS ⟨(by omega), ⟨x24, x25, y26, hT, by omega⟩⟩ dX9_without_25
