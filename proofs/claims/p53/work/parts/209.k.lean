set_option maxRecDepth 20000 in
theorem ggX9_firmest_X9_isIn : GoodIn wsX9_firmest wsX9_isIn := goodIn_r _ [4] rfl rfl
set_option maxRecDepth 20000 in
theorem gX9_firmest_X9_isIn : GoodIn wsX9_firmest (va_wsS RX9 346 yX9_isIn wsX9_isIn) := goodIn_app (goodIn_of _ (by decide +kernel)) ggX9_firmest_X9_isIn
set_option maxRecDepth 20000 in
theorem ggX9_firmest_X9_standNow : GoodIn wsX9_firmest wsX9_standNow := goodIn_r _ [8, 9, 10, 11, 12, 3, 13, 14, 15, 16, 17, 18, 19, 20, 21, 22, 23, 24, 25, 26, 27, 28, 29, 30, 31, 32, 33, 34, 35, 36, 37, 38, 39, 40, 41, 42, 43, 44, 45, 46, 47, 48, 49, 50, 51, 52, 53, 54, 55, 56, 57, 58, 59, 60, 61, 62, 63, 64, 65, 66, 67, 68, 69, 70, 71, 72, 73, 74, 75, 76, 77, 78, 79, 80, 81, 82, 83, 84, 85, 86, 87, 88, 89, 90, 91, 92, 93, 94, 95, 96, 97, 98, 99, 1, 2, 4, 100, 101, 102, 103, 104, 105, 106, 107, 108, 109, 110, 111, 112, 113, 114, 115, 116, 117, 118, 119, 120, 121, 122, 123, 124, 125, 126, 127, 128, 129, 130, 131, 132, 133, 134, 135, 136, 137, 138, 139, 140, 141, 142, 143, 144, 145, 146, 147, 148, 149, 150, 151, 152, 153, 154, 155, 156, 157, 158, 159, 160, 161, 162, 163, 164, 165, 166, 167, 168, 169, 170, 171] rfl rfl
set_option maxRecDepth 20000 in
theorem gX9_firmest_X9_standNow : GoodIn wsX9_firmest (wsV RX9 402 RX9 yX9_standNow wsX9_standNow) := goodIn_app (goodIn_of _ (by decide +kernel)) ggX9_firmest_X9_standNow
set_option maxRecDepth 20000 in
theorem ggX9_firmest_X9_many : GoodIn wsX9_firmest wsX9_many := goodIn_r _ [90, 91, 23, 108, 109, 110, 111, 112, 113, 114, 115, 116, 117, 118, 119, 120, 121, 122, 123, 124, 125, 126, 127, 128, 129, 130, 131, 132, 133, 134, 135, 136, 137, 138, 139, 140, 141, 142, 143, 144, 145, 146, 147, 148, 149, 150, 151, 152, 153, 154, 155, 156, 157, 158, 159, 160, 161, 162, 163, 164, 165, 166, 167, 168, 169, 170, 171] rfl rfl
set_option maxRecDepth 20000 in
theorem gX9_firmest_X9_many : GoodIn wsX9_firmest (wsV RX9 343 RX9 yX9_many wsX9_many) := goodIn_app (goodIn_of _ (by decide +kernel)) ggX9_firmest_X9_many
set_option maxRecDepth 20000 in
theorem ggX9_firmest_X9_isClaim : GoodIn wsX9_firmest wsX9_isClaim := goodIn_r _ [103, 76, 23, 96, 97, 98, 3, 99, 87, 88, 89, 90, 91, 1, 2, 4, 108, 109, 110, 111, 112, 113, 114, 115, 116, 117, 118, 119, 120, 121, 122, 123, 124, 125, 126, 127, 128, 129, 130, 131, 132, 133, 134, 135, 136, 137, 138, 139, 140, 141, 142, 143, 144, 145, 146, 147, 148, 149, 150, 151, 152, 153, 154, 155, 156, 157, 158, 159, 160, 161, 162, 163, 164, 165, 166, 167, 168, 169, 170, 171] rfl rfl
set_option maxRecDepth 20000 in
theorem gX9_firmest_X9_isClaim : GoodIn wsX9_firmest (wsV RX9 390 RX9 yX9_isClaim wsX9_isClaim) := goodIn_app (goodIn_of _ (by decide +kernel)) ggX9_firmest_X9_isClaim
set_option maxRecDepth 20000 in
theorem ggX9_firmest_X9_bit : GoodIn wsX9_firmest wsX9_bit := goodIn_r _ [31] rfl rfl
set_option maxRecDepth 20000 in
theorem gX9_firmest_X9_bit : GoodIn wsX9_firmest (va_wsS RX9 245 yX9_bit wsX9_bit) := goodIn_app (goodIn_of _ (by decide +kernel)) ggX9_firmest_X9_bit
set_option maxRecDepth 20000 in
theorem ggX9_firmest_X9_borne : GoodIn wsX9_firmest wsX9_borne := goodIn_r _ [107, 21, 24, 25, 26, 3, 27, 28, 23, 48, 49, 50, 51, 52, 60, 61, 62, 63, 64, 29, 30, 31, 108, 109, 110, 111, 112, 113, 114, 115, 116, 117, 118, 119, 120, 121, 122, 123, 124, 125, 126, 127, 128, 129, 130, 131, 132, 133, 134, 135, 136, 137, 138, 139, 140, 141, 142, 143, 144, 145, 146, 147, 148, 149, 150, 151, 152, 153, 154, 155, 156, 157, 158, 159, 160, 161, 162, 163, 164, 165, 166, 167, 168, 169, 170, 171] rfl rfl
set_option maxRecDepth 20000 in
theorem gX9_firmest_X9_borne : GoodIn wsX9_firmest (wsV RX9 393 RX9 yX9_borne wsX9_borne) := goodIn_app (goodIn_of _ (by decide +kernel)) ggX9_firmest_X9_borne
set_option maxRecDepth 20000 in
theorem ggX9_firmest_X9_needOf : GoodIn wsX9_firmest wsX9_needOf := goodIn_r _ [72, 73, 74, 75, 76, 23, 108, 109, 110, 111, 112, 113, 114, 115, 116, 117, 118, 119, 120, 121, 122, 123, 124, 125, 126, 127, 128, 129, 130, 131, 132, 133, 134, 135, 136, 137, 138, 139, 140, 141, 142, 143, 144, 145, 146, 147, 148, 149, 150, 151, 152, 153, 154, 155, 156, 157, 158, 159, 160, 161, 162, 163, 164, 165, 166, 167, 168, 169, 170, 171] rfl rfl
set_option maxRecDepth 20000 in
theorem gX9_firmest_X9_needOf : GoodIn wsX9_firmest (wsV RX9 333 RX9 yX9_needOf wsX9_needOf) := goodIn_app (goodIn_of _ (by decide +kernel)) ggX9_firmest_X9_needOf
theorem dX9_firmest_0 : decode cX9_firmest 0 = .ok (.iload_n 1, 1) := by decide +kernel
theorem dX9_firmest_1 : decode cX9_firmest 1 = .ok (.iconst 0, 1) := by decide +kernel
theorem dX9_firmest_2 : decode cX9_firmest 2 = .ok (.iconst 1, 1) := by decide +kernel
theorem dX9_firmest_3 : decode cX9_firmest 3 = .ok (.invokestatic 346, 3) := by decide +kernel
theorem dX9_firmest_6 : decode cX9_firmest 6 = .ok (.ifCond .ne 5, 3) := by decide +kernel
theorem dX9_firmest_9 : decode cX9_firmest 9 = .ok (.iconst (-1), 1) := by decide +kernel
theorem dX9_firmest_10 : decode cX9_firmest 10 = .ok (.ireturn, 1) := by decide +kernel
theorem dX9_firmest_11 : decode cX9_firmest 11 = .ok (.aload_n 0, 1) := by decide +kernel
theorem dX9_firmest_12 : decode cX9_firmest 12 = .ok (.invokevirtual 402, 3) := by decide +kernel
theorem dX9_firmest_15 : decode cX9_firmest 15 = .ok (.istore_n 2, 1) := by decide +kernel
theorem dX9_firmest_16 : decode cX9_firmest 16 = .ok (.iconst (-1), 1) := by decide +kernel
theorem dX9_firmest_17 : decode cX9_firmest 17 = .ok (.istore_n 3, 1) := by decide +kernel
theorem dX9_firmest_18 : decode cX9_firmest 18 = .ok (.iconst (-1), 1) := by decide +kernel
theorem dX9_firmest_19 : decode cX9_firmest 19 = .ok (.istore 4, 2) := by decide +kernel
theorem dX9_firmest_21 : decode cX9_firmest 21 = .ok (.iconst 0, 1) := by decide +kernel
theorem dX9_firmest_22 : decode cX9_firmest 22 = .ok (.istore 5, 2) := by decide +kernel
theorem dX9_firmest_24 : decode cX9_firmest 24 = .ok (.iload 5, 2) := by decide +kernel
theorem dX9_firmest_26 : decode cX9_firmest 26 = .ok (.aload_n 0, 1) := by decide +kernel
theorem dX9_firmest_27 : decode cX9_firmest 27 = .ok (.invokevirtual 343, 3) := by decide +kernel
theorem dX9_firmest_30 : decode cX9_firmest 30 = .ok (.if_icmp .ge 64, 3) := by decide +kernel
theorem dX9_firmest_33 : decode cX9_firmest 33 = .ok (.aload_n 0, 1) := by decide +kernel
theorem dX9_firmest_34 : decode cX9_firmest 34 = .ok (.iload 5, 2) := by decide +kernel
theorem dX9_firmest_36 : decode cX9_firmest 36 = .ok (.invokevirtual 390, 3) := by decide +kernel
theorem dX9_firmest_39 : decode cX9_firmest 39 = .ok (.ifCond .eq 29, 3) := by decide +kernel
theorem dX9_firmest_42 : decode cX9_firmest 42 = .ok (.iload_n 2, 1) := by decide +kernel
theorem dX9_firmest_43 : decode cX9_firmest 43 = .ok (.iload 5, 2) := by decide +kernel
theorem dX9_firmest_45 : decode cX9_firmest 45 = .ok (.invokestatic 245, 3) := by decide +kernel
theorem dX9_firmest_48 : decode cX9_firmest 48 = .ok (.ifCond .eq 20, 3) := by decide +kernel
theorem dX9_firmest_51 : decode cX9_firmest 51 = .ok (.aload_n 0, 1) := by decide +kernel
theorem dX9_firmest_52 : decode cX9_firmest 52 = .ok (.iload 5, 2) := by decide +kernel
theorem dX9_firmest_54 : decode cX9_firmest 54 = .ok (.iload_n 2, 1) := by decide +kernel
theorem dX9_firmest_55 : decode cX9_firmest 55 = .ok (.invokevirtual 393, 3) := by decide +kernel
theorem dX9_firmest_58 : decode cX9_firmest 58 = .ok (.aload_n 0, 1) := by decide +kernel
theorem dX9_firmest_59 : decode cX9_firmest 59 = .ok (.iload 5, 2) := by decide +kernel
theorem dX9_firmest_61 : decode cX9_firmest 61 = .ok (.invokevirtual 333, 3) := by decide +kernel
theorem dX9_firmest_64 : decode cX9_firmest 64 = .ok (.isub, 1) := by decide +kernel
theorem dX9_firmest_65 : decode cX9_firmest 65 = .ok (.goto 4, 3) := by decide +kernel
theorem dX9_firmest_68 : decode cX9_firmest 68 = .ok (.iconst (-1), 1) := by decide +kernel
theorem dX9_firmest_69 : decode cX9_firmest 69 = .ok (.istore 6, 2) := by decide +kernel
theorem dX9_firmest_71 : decode cX9_firmest 71 = .ok (.iload 6, 2) := by decide +kernel
theorem dX9_firmest_73 : decode cX9_firmest 73 = .ok (.iload 4, 2) := by decide +kernel
theorem dX9_firmest_75 : decode cX9_firmest 75 = .ok (.if_icmp .gt 6, 3) := by decide +kernel
theorem dX9_firmest_78 : decode cX9_firmest 78 = .ok (.goto 10, 3) := by decide +kernel
theorem dX9_firmest_81 : decode cX9_firmest 81 = .ok (.iload 5, 2) := by decide +kernel
theorem dX9_firmest_83 : decode cX9_firmest 83 = .ok (.istore_n 3, 1) := by decide +kernel
theorem dX9_firmest_84 : decode cX9_firmest 84 = .ok (.iload 6, 2) := by decide +kernel
theorem dX9_firmest_86 : decode cX9_firmest 86 = .ok (.istore 4, 2) := by decide +kernel
theorem dX9_firmest_88 : decode cX9_firmest 88 = .ok (.iinc 5 1, 3) := by decide +kernel
theorem dX9_firmest_91 : decode cX9_firmest 91 = .ok (.goto (-67), 3) := by decide +kernel
theorem dX9_firmest_94 : decode cX9_firmest 94 = .ok (.iload_n 1, 1) := by decide +kernel
theorem dX9_firmest_95 : decode cX9_firmest 95 = .ok (.ifCond .ne 7, 3) := by decide +kernel
theorem dX9_firmest_98 : decode cX9_firmest 98 = .ok (.iload_n 3, 1) := by decide +kernel
theorem dX9_firmest_99 : decode cX9_firmest 99 = .ok (.goto 5, 3) := by decide +kernel
theorem dX9_firmest_102 : decode cX9_firmest 102 = .ok (.iload 4, 2) := by decide +kernel
theorem dX9_firmest_104 : decode cX9_firmest 104 = .ok (.ireturn, 1) := by decide +kernel
set_option maxRecDepth 20000 in
theorem ggX9_burdened_X9_many : GoodIn wsX9_burdened wsX9_many := goodIn_r _ [6, 7, 8, 26, 27, 28, 29, 30, 31, 32, 33, 34, 35, 36, 37, 38, 39, 40, 41, 42, 43, 44, 45, 46, 47, 48, 49, 50, 51, 52, 53, 54, 55, 56, 57, 58, 59, 60, 61, 62, 63, 64, 65, 66, 67, 68, 69, 70, 71, 72, 73, 74, 75, 76, 77, 78, 79, 80, 81, 82, 83, 84, 85, 86, 87, 88, 89] rfl rfl
set_option maxRecDepth 20000 in
theorem gX9_burdened_X9_many : GoodIn wsX9_burdened (wsV RX9 343 RX9 yX9_many wsX9_many) := goodIn_app (goodIn_of _ (by decide +kernel)) ggX9_burdened_X9_many
set_option maxRecDepth 20000 in
theorem ggX9_burdened_X9_leadingFrom : GoodIn wsX9_burdened wsX9_leadingFrom := goodIn_r _ [12, 13, 14, 15, 5, 16, 17, 8, 18, 19, 20, 21, 22, 26, 27, 28, 29, 30, 31, 32, 33, 34, 35, 36, 37, 38, 39, 40, 41, 42, 43, 44, 45, 46, 47, 48, 49, 50, 51, 52, 53, 54, 55, 56, 57, 58, 59, 60, 61, 62, 63, 64, 65, 66, 67, 68, 69, 70, 71, 72, 73, 74, 75, 76, 77, 78, 79, 80, 81, 82, 83, 84, 85, 86, 87, 88, 89] rfl rfl
set_option maxRecDepth 20000 in
theorem gX9_burdened_X9_leadingFrom : GoodIn wsX9_burdened (wsV RX9 330 RX9 yX9_leadingFrom wsX9_leadingFrom) := goodIn_app (goodIn_of _ (by decide +kernel)) ggX9_burdened_X9_leadingFrom
set_option maxRecDepth 20000 in
theorem ggX9_burdened_X9_bitsOf : GoodIn wsX9_burdened wsX9_bitsOf := goodIn_r _ [25] rfl rfl
set_option maxRecDepth 20000 in
theorem gX9_burdened_X9_bitsOf : GoodIn wsX9_burdened (va_wsS RX9 324 yX9_bitsOf wsX9_bitsOf) := goodIn_app (goodIn_of _ (by decide +kernel)) ggX9_burdened_X9_bitsOf
theorem dX9_burdened_0 : decode cX9_burdened 0 = .ok (.iconst (-1), 1) := by decide +kernel
theorem dX9_burdened_1 : decode cX9_burdened 1 = .ok (.istore_n 1, 1) := by decide +kernel
theorem dX9_burdened_2 : decode cX9_burdened 2 = .ok (.iconst 0, 1) := by decide +kernel
theorem dX9_burdened_3 : decode cX9_burdened 3 = .ok (.istore_n 2, 1) := by decide +kernel
theorem dX9_burdened_4 : decode cX9_burdened 4 = .ok (.iload_n 2, 1) := by decide +kernel
theorem dX9_burdened_5 : decode cX9_burdened 5 = .ok (.aload_n 0, 1) := by decide +kernel
theorem dX9_burdened_6 : decode cX9_burdened 6 = .ok (.invokevirtual 343, 3) := by decide +kernel
theorem dX9_burdened_9 : decode cX9_burdened 9 = .ok (.if_icmp .ge 48, 3) := by decide +kernel
theorem dX9_burdened_12 : decode cX9_burdened 12 = .ok (.iload_n 1, 1) := by decide +kernel
theorem dX9_burdened_13 : decode cX9_burdened 13 = .ok (.ifCond .lt 36, 3) := by decide +kernel
theorem dX9_burdened_16 : decode cX9_burdened 16 = .ok (.aload_n 0, 1) := by decide +kernel
theorem dX9_burdened_17 : decode cX9_burdened 17 = .ok (.iload_n 2, 1) := by decide +kernel
theorem dX9_burdened_18 : decode cX9_burdened 18 = .ok (.invokevirtual 330, 3) := by decide +kernel
theorem dX9_burdened_21 : decode cX9_burdened 21 = .ok (.aload_n 0, 1) := by decide +kernel
theorem dX9_burdened_22 : decode cX9_burdened 22 = .ok (.getfield 76, 3) := by decide +kernel
theorem dX9_burdened_25 : decode cX9_burdened 25 = .ok (.iconst 1, 1) := by decide +kernel
theorem dX9_burdened_26 : decode cX9_burdened 26 = .ok (.iaload, 1) := by decide +kernel
theorem dX9_burdened_27 : decode cX9_burdened 27 = .ok (.iand, 1) := by decide +kernel
theorem dX9_burdened_28 : decode cX9_burdened 28 = .ok (.invokestatic 324, 3) := by decide +kernel
theorem dX9_burdened_31 : decode cX9_burdened 31 = .ok (.aload_n 0, 1) := by decide +kernel
theorem dX9_burdened_32 : decode cX9_burdened 32 = .ok (.iload_n 1, 1) := by decide +kernel
theorem dX9_burdened_33 : decode cX9_burdened 33 = .ok (.invokevirtual 330, 3) := by decide +kernel
theorem dX9_burdened_36 : decode cX9_burdened 36 = .ok (.aload_n 0, 1) := by decide +kernel
theorem dX9_burdened_37 : decode cX9_burdened 37 = .ok (.getfield 76, 3) := by decide +kernel
theorem dX9_burdened_40 : decode cX9_burdened 40 = .ok (.iconst 1, 1) := by decide +kernel
theorem dX9_burdened_41 : decode cX9_burdened 41 = .ok (.iaload, 1) := by decide +kernel
theorem dX9_burdened_42 : decode cX9_burdened 42 = .ok (.iand, 1) := by decide +kernel
theorem dX9_burdened_43 : decode cX9_burdened 43 = .ok (.invokestatic 324, 3) := by decide +kernel
theorem dX9_burdened_46 : decode cX9_burdened 46 = .ok (.if_icmp .le 5, 3) := by decide +kernel
theorem dX9_burdened_49 : decode cX9_burdened 49 = .ok (.iload_n 2, 1) := by decide +kernel
theorem dX9_burdened_50 : decode cX9_burdened 50 = .ok (.istore_n 1, 1) := by decide +kernel
theorem dX9_burdened_51 : decode cX9_burdened 51 = .ok (.iinc 2 1, 3) := by decide +kernel
theorem dX9_burdened_54 : decode cX9_burdened 54 = .ok (.goto (-50), 3) := by decide +kernel
theorem dX9_burdened_57 : decode cX9_burdened 57 = .ok (.iload_n 1, 1) := by decide +kernel
theorem dX9_burdened_58 : decode cX9_burdened 58 = .ok (.ireturn, 1) := by decide +kernel
set_option maxRecDepth 20000 in
theorem ggX9_perils_X9_isClaim : GoodIn wsX9_perils wsX9_isClaim := goodIn_r _ [6, 7, 8, 9, 10, 11, 5, 12, 13, 14, 15, 16, 17, 18, 19, 20, 116, 117, 118, 119, 120, 121, 122, 123, 124, 125, 126, 127, 128, 129, 130, 131, 132, 133, 134, 135, 136, 137, 138, 139, 140, 141, 142, 143, 144, 145, 146, 147, 148, 149, 150, 151, 152, 153, 154, 155, 156, 157, 158, 159, 160, 161, 162, 163, 164, 165, 166, 167, 168, 169, 170, 171, 172, 173, 174, 175, 176, 177, 178, 179] rfl rfl
set_option maxRecDepth 20000 in
theorem gX9_perils_X9_isClaim : GoodIn wsX9_perils (wsV RX9 390 RX9 yX9_isClaim wsX9_isClaim) := goodIn_app (goodIn_of _ (by decide +kernel)) ggX9_perils_X9_isClaim
set_option maxRecDepth 20000 in
theorem ggX9_perils_X9_isIn : GoodIn wsX9_perils wsX9_isIn := goodIn_r _ [20] rfl rfl
set_option maxRecDepth 20000 in
theorem gX9_perils_X9_isIn : GoodIn wsX9_perils (va_wsS RX9 346 yX9_isIn wsX9_isIn) := goodIn_app (goodIn_of _ (by decide +kernel)) ggX9_perils_X9_isIn
set_option maxRecDepth 20000 in
theorem ggX9_perils_X9_standNow : GoodIn wsX9_perils wsX9_standNow := goodIn_r _ [24, 1, 25, 26, 27, 5, 28, 29, 30, 31, 32, 33, 34, 35, 36, 37, 8, 38, 39, 40, 41, 42, 43, 44, 45, 46, 47, 48, 49, 50, 51, 52, 53, 54, 55, 56, 57, 58, 59, 60, 61, 62, 63, 64, 65, 66, 67, 68, 69, 70, 71, 72, 73, 74, 75, 76, 77, 78, 79, 80, 81, 82, 83, 84, 85, 86, 87, 88, 89, 7, 90, 91, 92, 93, 94, 95, 96, 97, 98, 99, 13, 14, 15, 16, 17, 100, 101, 102, 103, 9, 10, 11, 12, 18, 19, 20, 2, 3, 4, 6, 104, 105, 106, 107, 116, 117, 118, 119, 120, 121, 122, 123, 124, 125, 126, 127, 128, 129, 130, 131, 132, 133, 134, 135, 136, 137, 138, 139, 140, 141, 142, 143, 144, 145, 146, 147, 148, 149, 150, 151, 152, 153, 154, 155, 156, 157, 158, 159, 160, 161, 162, 163, 164, 165, 166, 167, 168, 169, 170, 171, 172, 173, 174, 175, 176, 177, 178, 179] rfl rfl
set_option maxRecDepth 20000 in
theorem gX9_perils_X9_standNow : GoodIn wsX9_perils (wsV RX9 402 RX9 yX9_standNow wsX9_standNow) := goodIn_app (goodIn_of _ (by decide +kernel)) ggX9_perils_X9_standNow
set_option maxRecDepth 20000 in
theorem ggX9_perils_X9_bit : GoodIn wsX9_perils wsX9_bit := goodIn_r _ [45] rfl rfl
set_option maxRecDepth 20000 in
theorem gX9_perils_X9_bit : GoodIn wsX9_perils (va_wsS RX9 245 yX9_bit wsX9_bit) := goodIn_app (goodIn_of _ (by decide +kernel)) ggX9_perils_X9_bit
set_option maxRecDepth 20000 in
theorem ggX9_perils_X9_bitsOf : GoodIn wsX9_perils wsX9_bitsOf := goodIn_r _ [73] rfl rfl
set_option maxRecDepth 20000 in
theorem gX9_perils_X9_bitsOf : GoodIn wsX9_perils (va_wsS RX9 324 yX9_bitsOf wsX9_bitsOf) := goodIn_app (goodIn_of _ (by decide +kernel)) ggX9_perils_X9_bitsOf
set_option maxRecDepth 20000 in
theorem ggX9_perils_X9_doesStand : GoodIn wsX9_perils wsX9_doesStand := goodIn_r _ [111, 112, 113, 114, 5, 115, 1, 25, 26, 27, 28, 29, 30, 31, 32, 33, 34, 35, 36, 37, 8, 38, 39, 40, 41, 42, 43, 44, 45, 46, 47, 48, 49, 50, 51, 52, 53, 54, 55, 56, 57, 58, 59, 60, 61, 62, 63, 64, 65, 66, 67, 68, 69, 70, 71, 72, 73, 74, 75, 76, 77, 78, 79, 80, 81, 82, 83, 84, 85, 86, 87, 88, 89, 7, 90, 91, 92, 93, 94, 95, 96, 97, 98, 99, 13, 14, 15, 16, 17, 100, 101, 102, 103, 9, 10, 11, 12, 18, 19, 20, 2, 3, 4, 6, 104, 105, 106, 107, 116, 117, 118, 119, 120, 121, 122, 123, 124, 125, 126, 127, 128, 129, 130, 131, 132, 133, 134, 135, 136, 137, 138, 139, 140, 141, 142, 143, 144, 145, 146, 147, 148, 149, 150, 151, 152, 153, 154, 155, 156, 157, 158, 159, 160, 161, 162, 163, 164, 165, 166, 167, 168, 169, 170, 171, 172, 173, 174, 175, 176, 177, 178, 179] rfl rfl
set_option maxRecDepth 20000 in
theorem gX9_perils_X9_doesStand : GoodIn wsX9_perils (wsV RX9 439 RX9 yX9_doesStand wsX9_doesStand) := goodIn_app (goodIn_of _ (by decide +kernel)) ggX9_perils_X9_doesStand
theorem dX9_perils_0 : decode cX9_perils 0 = .ok (.aload_n 0, 1) := by decide +kernel
theorem dX9_perils_1 : decode cX9_perils 1 = .ok (.iload_n 1, 1) := by decide +kernel
theorem dX9_perils_2 : decode cX9_perils 2 = .ok (.invokevirtual 390, 3) := by decide +kernel
theorem dX9_perils_5 : decode cX9_perils 5 = .ok (.ifCond .eq 23, 3) := by decide +kernel
theorem dX9_perils_8 : decode cX9_perils 8 = .ok (.iload_n 2, 1) := by decide +kernel
theorem dX9_perils_9 : decode cX9_perils 9 = .ok (.iconst 0, 1) := by decide +kernel
theorem dX9_perils_10 : decode cX9_perils 10 = .ok (.iconst 1, 1) := by decide +kernel
theorem dX9_perils_11 : decode cX9_perils 11 = .ok (.invokestatic 346, 3) := by decide +kernel
theorem dX9_perils_14 : decode cX9_perils 14 = .ok (.ifCond .eq 14, 3) := by decide +kernel
theorem dX9_perils_17 : decode cX9_perils 17 = .ok (.aload_n 0, 1) := by decide +kernel
theorem dX9_perils_18 : decode cX9_perils 18 = .ok (.invokevirtual 402, 3) := by decide +kernel
theorem dX9_perils_21 : decode cX9_perils 21 = .ok (.iload_n 1, 1) := by decide +kernel
theorem dX9_perils_22 : decode cX9_perils 22 = .ok (.invokestatic 245, 3) := by decide +kernel
theorem dX9_perils_25 : decode cX9_perils 25 = .ok (.ifCond .ne 5, 3) := by decide +kernel
theorem dX9_perils_28 : decode cX9_perils 28 = .ok (.iconst (-1), 1) := by decide +kernel
theorem dX9_perils_29 : decode cX9_perils 29 = .ok (.ireturn, 1) := by decide +kernel
theorem dX9_perils_30 : decode cX9_perils 30 = .ok (.iconst 0, 1) := by decide +kernel
theorem dX9_perils_31 : decode cX9_perils 31 = .ok (.istore_n 3, 1) := by decide +kernel
theorem dX9_perils_32 : decode cX9_perils 32 = .ok (.iconst 1, 1) := by decide +kernel
theorem dX9_perils_33 : decode cX9_perils 33 = .ok (.istore 4, 2) := by decide +kernel
theorem dX9_perils_35 : decode cX9_perils 35 = .ok (.iload 4, 2) := by decide +kernel
theorem dX9_perils_37 : decode cX9_perils 37 = .ok (.aload_n 0, 1) := by decide +kernel
theorem dX9_perils_38 : decode cX9_perils 38 = .ok (.getfield 76, 3) := by decide +kernel
theorem dX9_perils_41 : decode cX9_perils 41 = .ok (.iconst 1, 1) := by decide +kernel
theorem dX9_perils_42 : decode cX9_perils 42 = .ok (.iaload, 1) := by decide +kernel
theorem dX9_perils_43 : decode cX9_perils 43 = .ok (.if_icmp .gt 56, 3) := by decide +kernel
theorem dX9_perils_46 : decode cX9_perils 46 = .ok (.iload 4, 2) := by decide +kernel
theorem dX9_perils_48 : decode cX9_perils 48 = .ok (.aload_n 0, 1) := by decide +kernel
theorem dX9_perils_49 : decode cX9_perils 49 = .ok (.getfield 76, 3) := by decide +kernel
theorem dX9_perils_52 : decode cX9_perils 52 = .ok (.iconst 1, 1) := by decide +kernel
theorem dX9_perils_53 : decode cX9_perils 53 = .ok (.iaload, 1) := by decide +kernel
theorem dX9_perils_54 : decode cX9_perils 54 = .ok (.iconst (-1), 1) := by decide +kernel
theorem dX9_perils_55 : decode cX9_perils 55 = .ok (.ixor, 1) := by decide +kernel
theorem dX9_perils_56 : decode cX9_perils 56 = .ok (.iand, 1) := by decide +kernel
theorem dX9_perils_57 : decode cX9_perils 57 = .ok (.ifCond .ne 36, 3) := by decide +kernel
theorem dX9_perils_60 : decode cX9_perils 60 = .ok (.iload 4, 2) := by decide +kernel
theorem dX9_perils_62 : decode cX9_perils 62 = .ok (.invokestatic 324, 3) := by decide +kernel
theorem dX9_perils_65 : decode cX9_perils 65 = .ok (.iload_n 2, 1) := by decide +kernel
theorem dX9_perils_66 : decode cX9_perils 66 = .ok (.iconst 1, 1) := by decide +kernel
theorem dX9_perils_67 : decode cX9_perils 67 = .ok (.iadd, 1) := by decide +kernel
theorem dX9_perils_68 : decode cX9_perils 68 = .ok (.if_icmp .ne 25, 3) := by decide +kernel
theorem dX9_perils_71 : decode cX9_perils 71 = .ok (.aload_n 0, 1) := by decide +kernel
theorem dX9_perils_72 : decode cX9_perils 72 = .ok (.iload_n 1, 1) := by decide +kernel
theorem dX9_perils_73 : decode cX9_perils 73 = .ok (.aload_n 0, 1) := by decide +kernel
theorem dX9_perils_74 : decode cX9_perils 74 = .ok (.getfield 76, 3) := by decide +kernel
theorem dX9_perils_77 : decode cX9_perils 77 = .ok (.iconst 1, 1) := by decide +kernel
theorem dX9_perils_78 : decode cX9_perils 78 = .ok (.iaload, 1) := by decide +kernel
theorem dX9_perils_79 : decode cX9_perils 79 = .ok (.iload 4, 2) := by decide +kernel
theorem dX9_perils_81 : decode cX9_perils 81 = .ok (.iconst (-1), 1) := by decide +kernel
theorem dX9_perils_82 : decode cX9_perils 82 = .ok (.ixor, 1) := by decide +kernel
theorem dX9_perils_83 : decode cX9_perils 83 = .ok (.iand, 1) := by decide +kernel
theorem dX9_perils_84 : decode cX9_perils 84 = .ok (.invokevirtual 439, 3) := by decide +kernel
theorem dX9_perils_87 : decode cX9_perils 87 = .ok (.ifCond .ne 6, 3) := by decide +kernel
theorem dX9_perils_90 : decode cX9_perils 90 = .ok (.iinc 3 1, 3) := by decide +kernel
theorem dX9_perils_93 : decode cX9_perils 93 = .ok (.iinc 4 1, 3) := by decide +kernel
theorem dX9_perils_96 : decode cX9_perils 96 = .ok (.goto (-61), 3) := by decide +kernel
theorem dX9_perils_99 : decode cX9_perils 99 = .ok (.iload_n 3, 1) := by decide +kernel
theorem dX9_perils_100 : decode cX9_perils 100 = .ok (.ireturn, 1) := by decide +kernel
set_option maxRecDepth 20000 in
theorem ggX9_spare_X9_standNow : GoodIn wsX9_spare wsX9_standNow := goodIn_r _ [6, 1, 7, 8, 9, 5, 10, 11, 12, 13, 14, 15, 16, 17, 18, 19, 20, 21, 22, 23, 24, 25, 26, 27, 28, 29, 30, 31, 32, 33, 34, 35, 36, 37, 38, 39, 40, 41, 42, 43, 44, 45, 46, 47, 48, 49, 50, 51, 52, 53, 54, 55, 56, 57, 58, 59, 60, 61, 62, 63, 64, 65, 66, 67, 68, 69, 70, 71, 72, 73, 74, 75, 76, 77, 78, 79, 80, 81, 82, 83, 84, 85, 86, 87, 88, 89, 90, 91, 92, 93, 94, 95, 96, 97, 98, 99, 100, 101, 102, 103, 104, 105, 106, 107, 112, 113, 114, 115, 116, 117, 118, 119, 120, 121, 122, 123, 124, 125, 126, 127, 128, 129, 130, 131, 132, 133, 134, 135, 136, 137, 138, 139, 140, 141, 142, 143, 144, 145, 146, 147, 148, 149, 150, 151, 152, 153, 154, 155, 156, 157, 158, 159, 160, 161, 162, 163, 164, 165, 166, 167, 168, 169, 170, 171, 172, 173, 174, 175] rfl rfl
set_option maxRecDepth 20000 in
theorem gX9_spare_X9_standNow : GoodIn wsX9_spare (wsV RX9 402 RX9 yX9_standNow wsX9_standNow) := goodIn_app (goodIn_of _ (by decide +kernel)) ggX9_spare_X9_standNow
set_option maxRecDepth 20000 in
theorem ggX9_spare_X9_threads : GoodIn wsX9_spare wsX9_threads := goodIn_r _ [24, 25, 20, 112, 113, 114, 115, 116, 117, 118, 119, 120, 121, 122, 123, 124, 125, 126, 127, 128, 129, 130, 131, 132, 133, 134, 135, 136, 137, 138, 139, 140, 141, 142, 143, 144, 145, 146, 147, 148, 149, 150, 151, 152, 153, 154, 155, 156, 157, 158, 159, 160, 161, 162, 163, 164, 165, 166, 167, 168, 169, 170, 171, 172, 173, 174, 175] rfl rfl
set_option maxRecDepth 20000 in
theorem gX9_spare_X9_threads : GoodIn wsX9_spare (wsV RX9 350 RX9 yX9_threads wsX9_threads) := goodIn_app (goodIn_of _ (by decide +kernel)) ggX9_spare_X9_threads
set_option maxRecDepth 20000 in
theorem ggX9_spare_X9_bit : GoodIn wsX9_spare wsX9_bit := goodIn_r _ [28] rfl rfl
set_option maxRecDepth 20000 in
theorem gX9_spare_X9_bit : GoodIn wsX9_spare (va_wsS RX9 245 yX9_bit wsX9_bit) := goodIn_app (goodIn_of _ (by decide +kernel)) ggX9_spare_X9_bit
set_option maxRecDepth 20000 in
theorem ggX9_spare_X9_standWith : GoodIn wsX9_spare wsX9_standWith := goodIn_r _ [111, 1, 7, 8, 9, 5, 10, 11, 12, 13, 14, 15, 16, 17, 18, 19, 20, 21, 22, 23, 24, 25, 26, 27, 28, 29, 30, 31, 32, 33, 34, 35, 36, 37, 38, 39, 40, 41, 42, 43, 44, 45, 46, 47, 48, 49, 50, 51, 52, 53, 54, 55, 56, 57, 58, 59, 60, 61, 62, 63, 64, 65, 66, 67, 68, 69, 70, 71, 72, 73, 74, 75, 76, 77, 78, 79, 80, 81, 82, 83, 84, 85, 86, 87, 88, 89, 90, 91, 92, 93, 94, 95, 96, 97, 98, 99, 100, 101, 102, 103, 104, 105, 106, 107, 112, 113, 114, 115, 116, 117, 118, 119, 120, 121, 122, 123, 124, 125, 126, 127, 128, 129, 130, 131, 132, 133, 134, 135, 136, 137, 138, 139, 140, 141, 142, 143, 144, 145, 146, 147, 148, 149, 150, 151, 152, 153, 154, 155, 156, 157, 158, 159, 160, 161, 162, 163, 164, 165, 166, 167, 168, 169, 170, 171, 172, 173, 174, 175] rfl rfl
set_option maxRecDepth 20000 in
theorem gX9_spare_X9_standWith : GoodIn wsX9_spare (wsV RX9 399 RX9 yX9_standWith wsX9_standWith) := goodIn_app (goodIn_of _ (by decide +kernel)) ggX9_spare_X9_standWith
theorem dX9_spare_0 : decode cX9_spare 0 = .ok (.aload_n 0, 1) := by decide +kernel
theorem dX9_spare_1 : decode cX9_spare 1 = .ok (.invokevirtual 402, 3) := by decide +kernel
theorem dX9_spare_4 : decode cX9_spare 4 = .ok (.istore_n 1, 1) := by decide +kernel
theorem dX9_spare_5 : decode cX9_spare 5 = .ok (.iconst 0, 1) := by decide +kernel
theorem dX9_spare_6 : decode cX9_spare 6 = .ok (.istore_n 2, 1) := by decide +kernel
theorem dX9_spare_7 : decode cX9_spare 7 = .ok (.iconst 0, 1) := by decide +kernel
theorem dX9_spare_8 : decode cX9_spare 8 = .ok (.istore_n 3, 1) := by decide +kernel
theorem dX9_spare_9 : decode cX9_spare 9 = .ok (.iload_n 3, 1) := by decide +kernel
theorem dX9_spare_10 : decode cX9_spare 10 = .ok (.aload_n 0, 1) := by decide +kernel
theorem dX9_spare_11 : decode cX9_spare 11 = .ok (.invokevirtual 350, 3) := by decide +kernel
theorem dX9_spare_14 : decode cX9_spare 14 = .ok (.if_icmp .ge 48, 3) := by decide +kernel
theorem dX9_spare_17 : decode cX9_spare 17 = .ok (.aload_n 0, 1) := by decide +kernel
theorem dX9_spare_18 : decode cX9_spare 18 = .ok (.getfield 76, 3) := by decide +kernel
theorem dX9_spare_21 : decode cX9_spare 21 = .ok (.iconst 1, 1) := by decide +kernel
theorem dX9_spare_22 : decode cX9_spare 22 = .ok (.iaload, 1) := by decide +kernel
theorem dX9_spare_23 : decode cX9_spare 23 = .ok (.iload_n 3, 1) := by decide +kernel
theorem dX9_spare_24 : decode cX9_spare 24 = .ok (.invokestatic 245, 3) := by decide +kernel
theorem dX9_spare_27 : decode cX9_spare 27 = .ok (.ifCond .eq 29, 3) := by decide +kernel
theorem dX9_spare_30 : decode cX9_spare 30 = .ok (.aload_n 0, 1) := by decide +kernel
theorem dX9_spare_31 : decode cX9_spare 31 = .ok (.aload_n 0, 1) := by decide +kernel
theorem dX9_spare_32 : decode cX9_spare 32 = .ok (.getfield 76, 3) := by decide +kernel
theorem dX9_spare_35 : decode cX9_spare 35 = .ok (.iconst 1, 1) := by decide +kernel
theorem dX9_spare_36 : decode cX9_spare 36 = .ok (.iaload, 1) := by decide +kernel
theorem dX9_spare_37 : decode cX9_spare 37 = .ok (.iconst 1, 1) := by decide +kernel
theorem dX9_spare_38 : decode cX9_spare 38 = .ok (.iload_n 3, 1) := by decide +kernel
theorem dX9_spare_39 : decode cX9_spare 39 = .ok (.ishl, 1) := by decide +kernel
theorem dX9_spare_40 : decode cX9_spare 40 = .ok (.iconst (-1), 1) := by decide +kernel
theorem dX9_spare_41 : decode cX9_spare 41 = .ok (.ixor, 1) := by decide +kernel
theorem dX9_spare_42 : decode cX9_spare 42 = .ok (.iand, 1) := by decide +kernel
theorem dX9_spare_43 : decode cX9_spare 43 = .ok (.invokevirtual 399, 3) := by decide +kernel
theorem dX9_spare_46 : decode cX9_spare 46 = .ok (.iload_n 1, 1) := by decide +kernel
theorem dX9_spare_47 : decode cX9_spare 47 = .ok (.if_icmp .ne 9, 3) := by decide +kernel
theorem dX9_spare_50 : decode cX9_spare 50 = .ok (.iload_n 2, 1) := by decide +kernel
theorem dX9_spare_51 : decode cX9_spare 51 = .ok (.iconst 1, 1) := by decide +kernel
theorem dX9_spare_52 : decode cX9_spare 52 = .ok (.iload_n 3, 1) := by decide +kernel
theorem dX9_spare_53 : decode cX9_spare 53 = .ok (.ishl, 1) := by decide +kernel
theorem dX9_spare_54 : decode cX9_spare 54 = .ok (.ior, 1) := by decide +kernel
theorem dX9_spare_55 : decode cX9_spare 55 = .ok (.istore_n 2, 1) := by decide +kernel
theorem dX9_spare_56 : decode cX9_spare 56 = .ok (.iinc 3 1, 3) := by decide +kernel
theorem dX9_spare_59 : decode cX9_spare 59 = .ok (.goto (-50), 3) := by decide +kernel
theorem dX9_spare_62 : decode cX9_spare 62 = .ok (.iload_n 2, 1) := by decide +kernel
theorem dX9_spare_63 : decode cX9_spare 63 = .ok (.ireturn, 1) := by decide +kernel
set_option maxRecDepth 20000 in
theorem ggX9_with_X9_threads : GoodIn wsX9_with wsX9_threads := goodIn_r _ [5, 6, 7, 108, 109, 110, 111, 112, 113, 114, 115, 116, 117, 118, 119, 120, 121, 122, 123, 124, 125, 126, 127, 128, 129, 130, 131, 132, 133, 134, 135, 136, 137, 138, 139, 140, 141, 142, 143, 144, 145, 146, 147, 148, 149, 150, 151, 152, 153, 154, 155, 156, 157, 158, 159, 160, 161, 162, 163, 164, 165, 166, 167, 168, 169, 170, 171] rfl rfl
set_option maxRecDepth 20000 in
theorem gX9_with_X9_threads : GoodIn wsX9_with (wsV RX9 350 RX9 yX9_threads wsX9_threads) := goodIn_app (goodIn_of _ (by decide +kernel)) ggX9_with_X9_threads
set_option maxRecDepth 20000 in
theorem ggX9_with_X9_isIn : GoodIn wsX9_with wsX9_isIn := goodIn_r _ [10] rfl rfl
set_option maxRecDepth 20000 in
theorem gX9_with_X9_isIn : GoodIn wsX9_with (va_wsS RX9 346 yX9_isIn wsX9_isIn) := goodIn_app (goodIn_of _ (by decide +kernel)) ggX9_with_X9_isIn
set_option maxRecDepth 20000 in
theorem ggX9_with_X9_standWith : GoodIn wsX9_with wsX9_standWith := goodIn_r _ [14, 15, 16, 17, 18, 4, 19, 20, 21, 22, 23, 24, 25, 26, 27, 28, 7, 1, 2, 3, 5, 6, 29, 30, 31, 32, 33, 34, 35, 36, 37, 38, 39, 40, 41, 42, 43, 44, 45, 46, 47, 48, 49, 50, 51, 52, 53, 54, 55, 56, 57, 58, 59, 60, 61, 62, 63, 64, 65, 66, 67, 68, 69, 70, 71, 72, 73, 74, 75, 76, 77, 78, 79, 80, 81, 82, 83, 84, 85, 86, 87, 88, 89, 90, 91, 92, 93, 94, 95, 96, 97, 98, 99, 8, 9, 10, 100, 101, 102, 103, 104, 105, 106, 107, 108, 109, 110, 111, 112, 113, 114, 115, 116, 117, 118, 119, 120, 121, 122, 123, 124, 125, 126, 127, 128, 129, 130, 131, 132, 133, 134, 135, 136, 137, 138, 139, 140, 141, 142, 143, 144, 145, 146, 147, 148, 149, 150, 151, 152, 153, 154, 155, 156, 157, 158, 159, 160, 161, 162, 163, 164, 165, 166, 167, 168, 169, 170, 171] rfl rfl
set_option maxRecDepth 20000 in
theorem gX9_with_X9_standWith : GoodIn wsX9_with (wsV RX9 399 RX9 yX9_standWith wsX9_standWith) := goodIn_app (goodIn_of _ (by decide +kernel)) ggX9_with_X9_standWith
theorem dX9_with_0 : decode cX9_with 0 = .ok (.iload_n 1, 1) := by decide +kernel
theorem dX9_with_1 : decode cX9_with 1 = .ok (.iconst 0, 1) := by decide +kernel
theorem dX9_with_2 : decode cX9_with 2 = .ok (.iconst 1, 1) := by decide +kernel
theorem dX9_with_3 : decode cX9_with 3 = .ok (.aload_n 0, 1) := by decide +kernel
theorem dX9_with_4 : decode cX9_with 4 = .ok (.invokevirtual 350, 3) := by decide +kernel
theorem dX9_with_7 : decode cX9_with 7 = .ok (.ishl, 1) := by decide +kernel
theorem dX9_with_8 : decode cX9_with 8 = .ok (.iconst 1, 1) := by decide +kernel
theorem dX9_with_9 : decode cX9_with 9 = .ok (.isub, 1) := by decide +kernel
theorem dX9_with_10 : decode cX9_with 10 = .ok (.invokestatic 346, 3) := by decide +kernel
theorem dX9_with_13 : decode cX9_with 13 = .ok (.ifCond .eq 11, 3) := by decide +kernel
theorem dX9_with_16 : decode cX9_with 16 = .ok (.aload_n 0, 1) := by decide +kernel
theorem dX9_with_17 : decode cX9_with 17 = .ok (.iload_n 1, 1) := by decide +kernel
theorem dX9_with_18 : decode cX9_with 18 = .ok (.invokevirtual 399, 3) := by decide +kernel
theorem dX9_with_21 : decode cX9_with 21 = .ok (.goto 4, 3) := by decide +kernel
theorem dX9_with_24 : decode cX9_with 24 = .ok (.iconst (-1), 1) := by decide +kernel
theorem dX9_with_25 : decode cX9_with 25 = .ok (.ireturn, 1) := by decide +kernel
set_option maxRecDepth 20000 in
theorem ggX9_law_X9_isIn : GoodIn wsX9_law wsX9_isIn := goodIn_r _ [5] rfl rfl
set_option maxRecDepth 20000 in
theorem gX9_law_X9_isIn : GoodIn wsX9_law (va_wsS RX9 346 yX9_isIn wsX9_isIn) := goodIn_app (goodIn_of _ (by decide +kernel)) ggX9_law_X9_isIn
set_option maxRecDepth 20000 in
theorem ggX9_law_X9_claimsNow : GoodIn wsX9_law wsX9_claimsNow := goodIn_r _ [9, 10, 11, 12, 4, 13, 14, 15, 16, 17, 18, 19, 20, 21, 22, 23, 24, 25, 26, 27, 28, 29, 30, 31, 32, 33, 34, 35, 36, 37, 38, 39, 40, 41, 42, 43, 44, 45, 46, 47, 48, 49, 50, 51, 52, 53, 54, 55, 56, 57, 58, 59, 60, 61, 62, 63, 64, 65, 66, 67, 68, 69, 70, 71, 72, 73, 74, 75, 76, 77, 1, 78, 79, 80, 81, 82, 83, 84, 85, 86, 87, 88, 89, 90, 91, 92, 93, 94, 95, 96, 97, 98, 99, 100, 101, 102, 103, 2, 3, 5, 104, 105, 106, 107, 108, 109, 110, 111, 112, 113, 114, 115, 116, 117, 118, 119, 120, 121, 122, 123, 124, 125, 126, 127, 128, 129, 130, 131, 132, 133, 134, 135, 136, 137, 138, 139, 140, 141, 142, 143, 144, 145, 146, 147, 148, 149, 150, 151, 152, 153, 154, 155, 156, 157, 158, 159, 160, 161, 162, 163, 164, 165, 166, 167, 168, 169, 170, 171, 172, 173, 174, 175, 176, 177, 178, 179] rfl rfl
set_option maxRecDepth 20000 in
theorem gX9_law_X9_claimsNow : GoodIn wsX9_law (wsV RX9 417 RX9 yX9_claimsNow wsX9_claimsNow) := goodIn_app (goodIn_of _ (by decide +kernel)) ggX9_law_X9_claimsNow
theorem dX9_law_0 : decode cX9_law 0 = .ok (.iload_n 1, 1) := by decide +kernel
theorem dX9_law_1 : decode cX9_law 1 = .ok (.iconst 0, 1) := by decide +kernel
theorem dX9_law_2 : decode cX9_law 2 = .ok (.bipush 99, 2) := by decide +kernel
theorem dX9_law_4 : decode cX9_law 4 = .ok (.invokestatic 346, 3) := by decide +kernel
theorem dX9_law_7 : decode cX9_law 7 = .ok (.ifCond .ne 5, 3) := by decide +kernel
theorem dX9_law_10 : decode cX9_law 10 = .ok (.iconst (-1), 1) := by decide +kernel
theorem dX9_law_11 : decode cX9_law 11 = .ok (.ireturn, 1) := by decide +kernel
theorem dX9_law_12 : decode cX9_law 12 = .ok (.aload_n 0, 1) := by decide +kernel
theorem dX9_law_13 : decode cX9_law 13 = .ok (.iload_n 1, 1) := by decide +kernel
theorem dX9_law_14 : decode cX9_law 14 = .ok (.putfield 85, 3) := by decide +kernel
theorem dX9_law_17 : decode cX9_law 17 = .ok (.aload_n 0, 1) := by decide +kernel
theorem dX9_law_18 : decode cX9_law 18 = .ok (.invokevirtual 417, 3) := by decide +kernel
theorem dX9_law_21 : decode cX9_law 21 = .ok (.istore_n 2, 1) := by decide +kernel
theorem dX9_law_22 : decode cX9_law 22 = .ok (.aload_n 0, 1) := by decide +kernel
theorem dX9_law_23 : decode cX9_law 23 = .ok (.iconst (-1), 1) := by decide +kernel
theorem dX9_law_24 : decode cX9_law 24 = .ok (.putfield 85, 3) := by decide +kernel
theorem dX9_law_27 : decode cX9_law 27 = .ok (.iload_n 2, 1) := by decide +kernel
theorem dX9_law_28 : decode cX9_law 28 = .ok (.ireturn, 1) := by decide +kernel
set_option maxRecDepth 20000 in
theorem ggX9_worth_X9_isClaim : GoodIn wsX9_worth wsX9_isClaim := goodIn_r _ [7, 8, 9, 10, 11, 12, 6, 13, 14, 15, 16, 17, 18, 19, 20, 21, 108, 109, 110, 111, 112, 113, 114, 115, 116, 117, 118, 119, 120, 121, 122, 123, 124, 125, 126, 127, 128, 129, 130, 131, 132, 133, 134, 135, 136, 137, 138, 139, 140, 141, 142, 143, 144, 145, 146, 147, 148, 149, 150, 151, 152, 153, 154, 155, 156, 157, 158, 159, 160, 161, 162, 163, 164, 165, 166, 167, 168, 169, 170, 171] rfl rfl
set_option maxRecDepth 20000 in
theorem gX9_worth_X9_isClaim : GoodIn wsX9_worth (wsV RX9 390 RX9 yX9_isClaim wsX9_isClaim) := goodIn_app (goodIn_of _ (by decide +kernel)) ggX9_worth_X9_isClaim
set_option maxRecDepth 20000 in
theorem ggX9_worth_X9_standNow : GoodIn wsX9_worth wsX9_standNow := goodIn_r _ [25, 26, 27, 28, 29, 6, 30, 31, 32, 33, 34, 35, 36, 37, 38, 39, 9, 40, 41, 42, 43, 44, 45, 46, 47, 48, 49, 50, 51, 52, 53, 54, 55, 56, 57, 58, 59, 60, 61, 62, 63, 64, 65, 66, 67, 68, 69, 70, 71, 72, 73, 74, 75, 76, 77, 78, 79, 80, 81, 82, 83, 84, 85, 86, 87, 88, 89, 1, 2, 8, 90, 91, 92, 93, 94, 95, 96, 97, 98, 99, 14, 15, 16, 17, 18, 100, 101, 102, 103, 10, 11, 12, 13, 19, 20, 21, 3, 4, 5, 7, 104, 105, 106, 107, 108, 109, 110, 111, 112, 113, 114, 115, 116, 117, 118, 119, 120, 121, 122, 123, 124, 125, 126, 127, 128, 129, 130, 131, 132, 133, 134, 135, 136, 137, 138, 139, 140, 141, 142, 143, 144, 145, 146, 147, 148, 149, 150, 151, 152, 153, 154, 155, 156, 157, 158, 159, 160, 161, 162, 163, 164, 165, 166, 167, 168, 169, 170, 171] rfl rfl
set_option maxRecDepth 20000 in
theorem gX9_worth_X9_standNow : GoodIn wsX9_worth (wsV RX9 402 RX9 yX9_standNow wsX9_standNow) := goodIn_app (goodIn_of _ (by decide +kernel)) ggX9_worth_X9_standNow
set_option maxRecDepth 20000 in
theorem ggX9_worth_X9_bit : GoodIn wsX9_worth wsX9_bit := goodIn_r _ [47] rfl rfl
set_option maxRecDepth 20000 in
theorem gX9_worth_X9_bit : GoodIn wsX9_worth (va_wsS RX9 245 yX9_bit wsX9_bit) := goodIn_app (goodIn_of _ (by decide +kernel)) ggX9_worth_X9_bit
theorem dX9_worth_0 : decode cX9_worth 0 = .ok (.aload_n 0, 1) := by decide +kernel
theorem dX9_worth_1 : decode cX9_worth 1 = .ok (.iload_n 1, 1) := by decide +kernel
theorem dX9_worth_2 : decode cX9_worth 2 = .ok (.invokevirtual 390, 3) := by decide +kernel
theorem dX9_worth_5 : decode cX9_worth 5 = .ok (.ifCond .ne 5, 3) := by decide +kernel
theorem dX9_worth_8 : decode cX9_worth 8 = .ok (.iconst (-1), 1) := by decide +kernel
theorem dX9_worth_9 : decode cX9_worth 9 = .ok (.ireturn, 1) := by decide +kernel
theorem dX9_worth_10 : decode cX9_worth 10 = .ok (.iconst (-1), 1) := by decide +kernel
theorem dX9_worth_11 : decode cX9_worth 11 = .ok (.istore_n 2, 1) := by decide +kernel
theorem dX9_worth_12 : decode cX9_worth 12 = .ok (.aload_n 0, 1) := by decide +kernel
theorem dX9_worth_13 : decode cX9_worth 13 = .ok (.iload_n 1, 1) := by decide +kernel
theorem dX9_worth_14 : decode cX9_worth 14 = .ok (.putfield 82, 3) := by decide +kernel
theorem dX9_worth_17 : decode cX9_worth 17 = .ok (.iconst 0, 1) := by decide +kernel
theorem dX9_worth_18 : decode cX9_worth 18 = .ok (.istore_n 3, 1) := by decide +kernel
theorem dX9_worth_19 : decode cX9_worth 19 = .ok (.iload_n 3, 1) := by decide +kernel
theorem dX9_worth_20 : decode cX9_worth 20 = .ok (.bipush 99, 2) := by decide +kernel
theorem dX9_worth_22 : decode cX9_worth 22 = .ok (.if_icmp .gt 27, 3) := by decide +kernel
theorem dX9_worth_25 : decode cX9_worth 25 = .ok (.aload_n 0, 1) := by decide +kernel
theorem dX9_worth_26 : decode cX9_worth 26 = .ok (.iload_n 3, 1) := by decide +kernel
theorem dX9_worth_27 : decode cX9_worth 27 = .ok (.putfield 356, 3) := by decide +kernel
theorem dX9_worth_30 : decode cX9_worth 30 = .ok (.aload_n 0, 1) := by decide +kernel
theorem dX9_worth_31 : decode cX9_worth 31 = .ok (.invokevirtual 402, 3) := by decide +kernel
theorem dX9_worth_34 : decode cX9_worth 34 = .ok (.iload_n 1, 1) := by decide +kernel
theorem dX9_worth_35 : decode cX9_worth 35 = .ok (.invokestatic 245, 3) := by decide +kernel
theorem dX9_worth_38 : decode cX9_worth 38 = .ok (.ifCond .eq 5, 3) := by decide +kernel
theorem dX9_worth_41 : decode cX9_worth 41 = .ok (.iload_n 3, 1) := by decide +kernel
theorem dX9_worth_42 : decode cX9_worth 42 = .ok (.istore_n 2, 1) := by decide +kernel
theorem dX9_worth_43 : decode cX9_worth 43 = .ok (.iinc 3 1, 3) := by decide +kernel
theorem dX9_worth_46 : decode cX9_worth 46 = .ok (.goto (-27), 3) := by decide +kernel
theorem dX9_worth_49 : decode cX9_worth 49 = .ok (.aload_n 0, 1) := by decide +kernel
theorem dX9_worth_50 : decode cX9_worth 50 = .ok (.iconst (-1), 1) := by decide +kernel
theorem dX9_worth_51 : decode cX9_worth 51 = .ok (.putfield 82, 3) := by decide +kernel
theorem dX9_worth_54 : decode cX9_worth 54 = .ok (.iload_n 2, 1) := by decide +kernel
theorem dX9_worth_55 : decode cX9_worth 55 = .ok (.ireturn, 1) := by decide +kernel
set_option maxRecDepth 20000 in
theorem ggX9_behind_X9_threads : GoodIn wsX9_behind wsX9_threads := goodIn_r _ [6, 7, 8, 22, 23, 24, 25, 26, 27, 28, 29, 30, 31, 32, 33, 34, 35, 36, 37, 38, 39, 40, 41, 42, 43, 44, 45, 46, 47, 48, 49, 50, 51, 52, 53, 54, 55, 56, 57, 58, 59, 60, 61, 62, 63, 64, 65, 66, 67, 68, 69, 70, 71, 72, 73, 74, 75, 76, 77, 78, 79, 80, 81, 82, 83, 84, 85] rfl rfl
set_option maxRecDepth 20000 in
theorem gX9_behind_X9_threads : GoodIn wsX9_behind (wsV RX9 350 RX9 yX9_threads wsX9_threads) := goodIn_app (goodIn_of _ (by decide +kernel)) ggX9_behind_X9_threads
set_option maxRecDepth 20000 in
theorem ggX9_behind_X9_bit : GoodIn wsX9_behind wsX9_bit := goodIn_r _ [11] rfl rfl
set_option maxRecDepth 20000 in
theorem gX9_behind_X9_bit : GoodIn wsX9_behind (va_wsS RX9 245 yX9_bit wsX9_bit) := goodIn_app (goodIn_of _ (by decide +kernel)) ggX9_behind_X9_bit
set_option maxRecDepth 20000 in
theorem ggX9_behind_X9_toOf : GoodIn wsX9_behind wsX9_toOf := goodIn_r _ [15, 16, 8, 22, 23, 24, 25, 26, 27, 28, 29, 30, 31, 32, 33, 34, 35, 36, 37, 38, 39, 40, 41, 42, 43, 44, 45, 46, 47, 48, 49, 50, 51, 52, 53, 54, 55, 56, 57, 58, 59, 60, 61, 62, 63, 64, 65, 66, 67, 68, 69, 70, 71, 72, 73, 74, 75, 76, 77, 78, 79, 80, 81, 82, 83, 84, 85] rfl rfl
set_option maxRecDepth 20000 in
theorem gX9_behind_X9_toOf : GoodIn wsX9_behind (wsV RX9 315 RX9 yX9_toOf wsX9_toOf) := goodIn_app (goodIn_of _ (by decide +kernel)) ggX9_behind_X9_toOf
set_option maxRecDepth 20000 in
theorem ggX9_behind_X9_fromOf : GoodIn wsX9_behind wsX9_fromOf := goodIn_r _ [20, 21, 8, 22, 23, 24, 25, 26, 27, 28, 29, 30, 31, 32, 33, 34, 35, 36, 37, 38, 39, 40, 41, 42, 43, 44, 45, 46, 47, 48, 49, 50, 51, 52, 53, 54, 55, 56, 57, 58, 59, 60, 61, 62, 63, 64, 65, 66, 67, 68, 69, 70, 71, 72, 73, 74, 75, 76, 77, 78, 79, 80, 81, 82, 83, 84, 85] rfl rfl
set_option maxRecDepth 20000 in
theorem gX9_behind_X9_fromOf : GoodIn wsX9_behind (wsV RX9 327 RX9 yX9_fromOf wsX9_fromOf) := goodIn_app (goodIn_of _ (by decide +kernel)) ggX9_behind_X9_fromOf
theorem dX9_behind_0 : decode cX9_behind 0 = .ok (.iload_n 1, 1) := by decide +kernel
theorem dX9_behind_1 : decode cX9_behind 1 = .ok (.istore_n 2, 1) := by decide +kernel
theorem dX9_behind_2 : decode cX9_behind 2 = .ok (.iconst 0, 1) := by decide +kernel
theorem dX9_behind_3 : decode cX9_behind 3 = .ok (.istore_n 3, 1) := by decide +kernel
theorem dX9_behind_4 : decode cX9_behind 4 = .ok (.iload_n 3, 1) := by decide +kernel
theorem dX9_behind_5 : decode cX9_behind 5 = .ok (.aload_n 0, 1) := by decide +kernel
theorem dX9_behind_6 : decode cX9_behind 6 = .ok (.invokevirtual 350, 3) := by decide +kernel
theorem dX9_behind_9 : decode cX9_behind 9 = .ok (.if_icmp .ge 44, 3) := by decide +kernel
theorem dX9_behind_12 : decode cX9_behind 12 = .ok (.aload_n 0, 1) := by decide +kernel
theorem dX9_behind_13 : decode cX9_behind 13 = .ok (.getfield 76, 3) := by decide +kernel
theorem dX9_behind_16 : decode cX9_behind 16 = .ok (.iconst 1, 1) := by decide +kernel
theorem dX9_behind_17 : decode cX9_behind 17 = .ok (.iaload, 1) := by decide +kernel
theorem dX9_behind_18 : decode cX9_behind 18 = .ok (.iload_n 3, 1) := by decide +kernel
theorem dX9_behind_19 : decode cX9_behind 19 = .ok (.invokestatic 245, 3) := by decide +kernel
theorem dX9_behind_22 : decode cX9_behind 22 = .ok (.ifCond .eq 25, 3) := by decide +kernel
theorem dX9_behind_25 : decode cX9_behind 25 = .ok (.iload_n 1, 1) := by decide +kernel
theorem dX9_behind_26 : decode cX9_behind 26 = .ok (.aload_n 0, 1) := by decide +kernel
theorem dX9_behind_27 : decode cX9_behind 27 = .ok (.iload_n 3, 1) := by decide +kernel
theorem dX9_behind_28 : decode cX9_behind 28 = .ok (.invokevirtual 315, 3) := by decide +kernel
theorem dX9_behind_31 : decode cX9_behind 31 = .ok (.invokestatic 245, 3) := by decide +kernel
theorem dX9_behind_34 : decode cX9_behind 34 = .ok (.ifCond .eq 13, 3) := by decide +kernel
theorem dX9_behind_37 : decode cX9_behind 37 = .ok (.iload_n 2, 1) := by decide +kernel
theorem dX9_behind_38 : decode cX9_behind 38 = .ok (.iconst 1, 1) := by decide +kernel
theorem dX9_behind_39 : decode cX9_behind 39 = .ok (.aload_n 0, 1) := by decide +kernel
theorem dX9_behind_40 : decode cX9_behind 40 = .ok (.iload_n 3, 1) := by decide +kernel
theorem dX9_behind_41 : decode cX9_behind 41 = .ok (.invokevirtual 327, 3) := by decide +kernel
theorem dX9_behind_44 : decode cX9_behind 44 = .ok (.ishl, 1) := by decide +kernel
theorem dX9_behind_45 : decode cX9_behind 45 = .ok (.ior, 1) := by decide +kernel
theorem dX9_behind_46 : decode cX9_behind 46 = .ok (.istore_n 2, 1) := by decide +kernel
theorem dX9_behind_47 : decode cX9_behind 47 = .ok (.iinc 3 1, 3) := by decide +kernel
theorem dX9_behind_50 : decode cX9_behind 50 = .ok (.goto (-46), 3) := by decide +kernel
theorem dX9_behind_53 : decode cX9_behind 53 = .ok (.iload_n 2, 1) := by decide +kernel
theorem dX9_behind_54 : decode cX9_behind 54 = .ok (.ireturn, 1) := by decide +kernel
set_option maxRecDepth 20000 in
theorem ggX9_roots_X9_isClaim : GoodIn wsX9_roots wsX9_isClaim := goodIn_r _ [5, 6, 7, 8, 9, 10, 4, 11, 12, 13, 14, 15, 16, 17, 18, 19, 51, 52, 53, 54, 55, 56, 57, 58, 59, 60, 61, 62, 63, 64, 65, 66, 67, 68, 69, 70, 71, 72, 73, 74, 75, 76, 77, 78, 79, 80, 81, 82, 83, 84, 85, 86, 87, 88, 89, 90, 91, 92, 93, 94, 95, 96, 97, 98, 99, 100, 101, 102, 103, 104, 105, 106, 107, 108, 109, 110, 111, 112, 113, 114] rfl rfl
set_option maxRecDepth 20000 in
theorem gX9_roots_X9_isClaim : GoodIn wsX9_roots (wsV RX9 390 RX9 yX9_isClaim wsX9_isClaim) := goodIn_app (goodIn_of _ (by decide +kernel)) ggX9_roots_X9_isClaim
set_option maxRecDepth 20000 in
theorem ggX9_roots_X9_many : GoodIn wsX9_roots wsX9_many := goodIn_r _ [15, 16, 7, 51, 52, 53, 54, 55, 56, 57, 58, 59, 60, 61, 62, 63, 64, 65, 66, 67, 68, 69, 70, 71, 72, 73, 74, 75, 76, 77, 78, 79, 80, 81, 82, 83, 84, 85, 86, 87, 88, 89, 90, 91, 92, 93, 94, 95, 96, 97, 98, 99, 100, 101, 102, 103, 104, 105, 106, 107, 108, 109, 110, 111, 112, 113, 114] rfl rfl
set_option maxRecDepth 20000 in
theorem gX9_roots_X9_many : GoodIn wsX9_roots (wsV RX9 343 RX9 yX9_many wsX9_many) := goodIn_app (goodIn_of _ (by decide +kernel)) ggX9_roots_X9_many
set_option maxRecDepth 20000 in
theorem ggX9_roots_X9_behind : GoodIn wsX9_roots wsX9_behind := goodIn_r _ [23, 24, 25, 26, 27, 4, 28, 29, 7, 30, 31, 32, 33, 34, 35, 36, 37, 38, 39, 40, 41, 42, 51, 52, 53, 54, 55, 56, 57, 58, 59, 60, 61, 62, 63, 64, 65, 66, 67, 68, 69, 70, 71, 72, 73, 74, 75, 76, 77, 78, 79, 80, 81, 82, 83, 84, 85, 86, 87, 88, 89, 90, 91, 92, 93, 94, 95, 96, 97, 98, 99, 100, 101, 102, 103, 104, 105, 106, 107, 108, 109, 110, 111, 112, 113, 114] rfl rfl
set_option maxRecDepth 20000 in
theorem gX9_roots_X9_behind : GoodIn wsX9_roots (wsV RX9 454 RX9 yX9_behind wsX9_behind) := goodIn_app (goodIn_of _ (by decide +kernel)) ggX9_roots_X9_behind
set_option maxRecDepth 20000 in
theorem ggX9_roots_X9_facts : GoodIn wsX9_roots wsX9_facts := goodIn_r _ [46, 12, 13, 14, 4, 15, 16, 7, 47, 48, 49, 50, 6, 8, 9, 10, 11, 17, 18, 19, 51, 52, 53, 54, 55, 56, 57, 58, 59, 60, 61, 62, 63, 64, 65, 66, 67, 68, 69, 70, 71, 72, 73, 74, 75, 76, 77, 78, 79, 80, 81, 82, 83, 84, 85, 86, 87, 88, 89, 90, 91, 92, 93, 94, 95, 96, 97, 98, 99, 100, 101, 102, 103, 104, 105, 106, 107, 108, 109, 110, 111, 112, 113, 114] rfl rfl
set_option maxRecDepth 20000 in
theorem gX9_roots_X9_facts : GoodIn wsX9_roots (wsV RX9 362 RX9 yX9_facts wsX9_facts) := goodIn_app (goodIn_of _ (by decide +kernel)) ggX9_roots_X9_facts
theorem dX9_roots_0 : decode cX9_roots 0 = .ok (.aload_n 0, 1) := by decide +kernel
theorem dX9_roots_1 : decode cX9_roots 1 = .ok (.iload_n 1, 1) := by decide +kernel
theorem dX9_roots_2 : decode cX9_roots 2 = .ok (.invokevirtual 390, 3) := by decide +kernel
theorem dX9_roots_5 : decode cX9_roots 5 = .ok (.ifCond .ne 5, 3) := by decide +kernel
theorem dX9_roots_8 : decode cX9_roots 8 = .ok (.iconst (-1), 1) := by decide +kernel
theorem dX9_roots_9 : decode cX9_roots 9 = .ok (.ireturn, 1) := by decide +kernel
theorem dX9_roots_10 : decode cX9_roots 10 = .ok (.iconst 1, 1) := by decide +kernel
theorem dX9_roots_11 : decode cX9_roots 11 = .ok (.iload_n 1, 1) := by decide +kernel
theorem dX9_roots_12 : decode cX9_roots 12 = .ok (.ishl, 1) := by decide +kernel
theorem dX9_roots_13 : decode cX9_roots 13 = .ok (.istore_n 2, 1) := by decide +kernel
theorem dX9_roots_14 : decode cX9_roots 14 = .ok (.iconst 0, 1) := by decide +kernel
theorem dX9_roots_15 : decode cX9_roots 15 = .ok (.istore_n 3, 1) := by decide +kernel
theorem dX9_roots_16 : decode cX9_roots 16 = .ok (.iload_n 3, 1) := by decide +kernel
theorem dX9_roots_17 : decode cX9_roots 17 = .ok (.aload_n 0, 1) := by decide +kernel
theorem dX9_roots_18 : decode cX9_roots 18 = .ok (.invokevirtual 343, 3) := by decide +kernel
theorem dX9_roots_21 : decode cX9_roots 21 = .ok (.if_icmp .ge 15, 3) := by decide +kernel
theorem dX9_roots_24 : decode cX9_roots 24 = .ok (.aload_n 0, 1) := by decide +kernel
theorem dX9_roots_25 : decode cX9_roots 25 = .ok (.iload_n 2, 1) := by decide +kernel
theorem dX9_roots_26 : decode cX9_roots 26 = .ok (.invokevirtual 454, 3) := by decide +kernel
theorem dX9_roots_29 : decode cX9_roots 29 = .ok (.istore_n 2, 1) := by decide +kernel
theorem dX9_roots_30 : decode cX9_roots 30 = .ok (.iinc 3 1, 3) := by decide +kernel
theorem dX9_roots_33 : decode cX9_roots 33 = .ok (.goto (-17), 3) := by decide +kernel
theorem dX9_roots_36 : decode cX9_roots 36 = .ok (.iload_n 2, 1) := by decide +kernel
theorem dX9_roots_37 : decode cX9_roots 37 = .ok (.aload_n 0, 1) := by decide +kernel
theorem dX9_roots_38 : decode cX9_roots 38 = .ok (.invokevirtual 362, 3) := by decide +kernel
theorem dX9_roots_41 : decode cX9_roots 41 = .ok (.iand, 1) := by decide +kernel
theorem dX9_roots_42 : decode cX9_roots 42 = .ok (.ireturn, 1) := by decide +kernel
set_option maxRecDepth 20000 in
theorem ggX9_keystone_X9_isIn : GoodIn wsX9_keystone wsX9_isIn := goodIn_r _ [6] rfl rfl
set_option maxRecDepth 20000 in
theorem gX9_keystone_X9_isIn : GoodIn wsX9_keystone (va_wsS RX9 346 yX9_isIn wsX9_isIn) := goodIn_app (goodIn_of _ (by decide +kernel)) ggX9_keystone_X9_isIn
set_option maxRecDepth 20000 in
theorem ggX9_keystone_X9_many : GoodIn wsX9_keystone wsX9_many := goodIn_r _ [10, 11, 12, 113, 114, 115, 116, 117, 118, 119, 120, 121, 122, 123, 124, 125, 126, 127, 128, 129, 130, 131, 132, 133, 134, 135, 136, 137, 138, 139, 140, 141, 142, 143, 144, 145, 146, 147, 148, 149, 150, 151, 152, 153, 154, 155, 156, 157, 158, 159, 160, 161, 162, 163, 164, 165, 166, 167, 168, 169, 170, 171, 172, 173, 174, 175, 176] rfl rfl
set_option maxRecDepth 20000 in
theorem gX9_keystone_X9_many : GoodIn wsX9_keystone (wsV RX9 343 RX9 yX9_many wsX9_many) := goodIn_app (goodIn_of _ (by decide +kernel)) ggX9_keystone_X9_many
set_option maxRecDepth 20000 in
theorem ggX9_keystone_X9_isFact : GoodIn wsX9_keystone wsX9_isFact := goodIn_r _ [16, 17, 12, 18, 19, 20, 5, 21, 7, 8, 9, 10, 11, 3, 4, 6, 113, 114, 115, 116, 117, 118, 119, 120, 121, 122, 123, 124, 125, 126, 127, 128, 129, 130, 131, 132, 133, 134, 135, 136, 137, 138, 139, 140, 141, 142, 143, 144, 145, 146, 147, 148, 149, 150, 151, 152, 153, 154, 155, 156, 157, 158, 159, 160, 161, 162, 163, 164, 165, 166, 167, 168, 169, 170, 171, 172, 173, 174, 175, 176] rfl rfl
set_option maxRecDepth 20000 in
theorem gX9_keystone_X9_isFact : GoodIn wsX9_keystone (wsV RX9 359 RX9 yX9_isFact wsX9_isFact) := goodIn_app (goodIn_of _ (by decide +kernel)) ggX9_keystone_X9_isFact
set_option maxRecDepth 20000 in
theorem ggX9_keystone_X9_bit : GoodIn wsX9_keystone wsX9_bit := goodIn_r _ [24] rfl rfl
set_option maxRecDepth 20000 in
theorem gX9_keystone_X9_bit : GoodIn wsX9_keystone (va_wsS RX9 245 yX9_bit wsX9_bit) := goodIn_app (goodIn_of _ (by decide +kernel)) ggX9_keystone_X9_bit
set_option maxRecDepth 20000 in
theorem ggX9_keystone_X9_without : GoodIn wsX9_keystone wsX9_without := goodIn_r _ [28, 2, 29, 30, 31, 5, 32, 33, 34, 35, 36, 37, 38, 39, 40, 41, 12, 42, 43, 44, 45, 46, 22, 23, 24, 47, 48, 49, 50, 51, 52, 53, 54, 55, 56, 57, 58, 59, 60, 61, 62, 63, 64, 65, 66, 67, 68, 69, 70, 71, 72, 73, 74, 75, 76, 77, 78, 79, 80, 81, 82, 83, 84, 85, 86, 87, 88, 89, 90, 17, 91, 92, 93, 94, 95, 96, 97, 98, 99, 100, 7, 8, 9, 10, 11, 13, 14, 15, 16, 18, 19, 20, 21, 3, 4, 6, 101, 102, 103, 104, 105, 106, 107, 108, 109, 110, 111, 112, 113, 114, 115, 116, 117, 118, 119, 120, 121, 122, 123, 124, 125, 126, 127, 128, 129, 130, 131, 132, 133, 134, 135, 136, 137, 138, 139, 140, 141, 142, 143, 144, 145, 146, 147, 148, 149, 150, 151, 152, 153, 154, 155, 156, 157, 158, 159, 160, 161, 162, 163, 164, 165, 166, 167, 168, 169, 170, 171, 172, 173, 174, 175, 176] rfl rfl
set_option maxRecDepth 20000 in
theorem gX9_keystone_X9_without : GoodIn wsX9_keystone (wsV RX9 458 RX9 yX9_without wsX9_without) := goodIn_app (goodIn_of _ (by decide +kernel)) ggX9_keystone_X9_without
set_option maxRecDepth 20000 in
theorem ggX9_keystone_X9_bitsOf : GoodIn wsX9_keystone wsX9_bitsOf := goodIn_r _ [74] rfl rfl
set_option maxRecDepth 20000 in
theorem gX9_keystone_X9_bitsOf : GoodIn wsX9_keystone (va_wsS RX9 324 yX9_bitsOf wsX9_bitsOf) := goodIn_app (goodIn_of _ (by decide +kernel)) ggX9_keystone_X9_bitsOf
theorem dX9_keystone_0 : decode cX9_keystone 0 = .ok (.iload_n 1, 1) := by decide +kernel
theorem dX9_keystone_1 : decode cX9_keystone 1 = .ok (.iconst 0, 1) := by decide +kernel
theorem dX9_keystone_2 : decode cX9_keystone 2 = .ok (.iconst 1, 1) := by decide +kernel
theorem dX9_keystone_3 : decode cX9_keystone 3 = .ok (.invokestatic 346, 3) := by decide +kernel
theorem dX9_keystone_6 : decode cX9_keystone 6 = .ok (.ifCond .ne 5, 3) := by decide +kernel
theorem dX9_keystone_9 : decode cX9_keystone 9 = .ok (.iconst (-1), 1) := by decide +kernel
theorem dX9_keystone_10 : decode cX9_keystone 10 = .ok (.ireturn, 1) := by decide +kernel
theorem dX9_keystone_11 : decode cX9_keystone 11 = .ok (.iconst (-1), 1) := by decide +kernel
theorem dX9_keystone_12 : decode cX9_keystone 12 = .ok (.istore_n 2, 1) := by decide +kernel
theorem dX9_keystone_13 : decode cX9_keystone 13 = .ok (.ldc_w 457, 3) := by decide +kernel
theorem dX9_keystone_16 : decode cX9_keystone 16 = .ok (.istore_n 3, 1) := by decide +kernel
theorem dX9_keystone_17 : decode cX9_keystone 17 = .ok (.iconst 0, 1) := by decide +kernel
theorem dX9_keystone_18 : decode cX9_keystone 18 = .ok (.istore 4, 2) := by decide +kernel
theorem dX9_keystone_20 : decode cX9_keystone 20 = .ok (.iload 4, 2) := by decide +kernel
theorem dX9_keystone_22 : decode cX9_keystone 22 = .ok (.aload_n 0, 1) := by decide +kernel
theorem dX9_keystone_23 : decode cX9_keystone 23 = .ok (.invokevirtual 343, 3) := by decide +kernel
theorem dX9_keystone_26 : decode cX9_keystone 26 = .ok (.if_icmp .ge 61, 3) := by decide +kernel
theorem dX9_keystone_29 : decode cX9_keystone 29 = .ok (.aload_n 0, 1) := by decide +kernel
theorem dX9_keystone_30 : decode cX9_keystone 30 = .ok (.iload 4, 2) := by decide +kernel
theorem dX9_keystone_32 : decode cX9_keystone 32 = .ok (.invokevirtual 359, 3) := by decide +kernel
theorem dX9_keystone_35 : decode cX9_keystone 35 = .ok (.ifCond .eq 46, 3) := by decide +kernel
theorem dX9_keystone_38 : decode cX9_keystone 38 = .ok (.aload_n 0, 1) := by decide +kernel
theorem dX9_keystone_39 : decode cX9_keystone 39 = .ok (.getfield 76, 3) := by decide +kernel
theorem dX9_keystone_42 : decode cX9_keystone 42 = .ok (.iconst 0, 1) := by decide +kernel
theorem dX9_keystone_43 : decode cX9_keystone 43 = .ok (.iaload, 1) := by decide +kernel
theorem dX9_keystone_44 : decode cX9_keystone 44 = .ok (.iload 4, 2) := by decide +kernel
theorem dX9_keystone_46 : decode cX9_keystone 46 = .ok (.invokestatic 245, 3) := by decide +kernel
theorem dX9_keystone_49 : decode cX9_keystone 49 = .ok (.ifCond .ne 32, 3) := by decide +kernel
theorem dX9_keystone_52 : decode cX9_keystone 52 = .ok (.aload_n 0, 1) := by decide +kernel
theorem dX9_keystone_53 : decode cX9_keystone 53 = .ok (.iload 4, 2) := by decide +kernel
theorem dX9_keystone_55 : decode cX9_keystone 55 = .ok (.invokevirtual 458, 3) := by decide +kernel
theorem dX9_keystone_58 : decode cX9_keystone 58 = .ok (.invokestatic 324, 3) := by decide +kernel
theorem dX9_keystone_61 : decode cX9_keystone 61 = .ok (.iload_n 3, 1) := by decide +kernel
theorem dX9_keystone_62 : decode cX9_keystone 62 = .ok (.if_icmp .lt 6, 3) := by decide +kernel
theorem dX9_keystone_65 : decode cX9_keystone 65 = .ok (.goto 16, 3) := by decide +kernel
theorem dX9_keystone_68 : decode cX9_keystone 68 = .ok (.iload 4, 2) := by decide +kernel
theorem dX9_keystone_70 : decode cX9_keystone 70 = .ok (.istore_n 2, 1) := by decide +kernel
theorem dX9_keystone_71 : decode cX9_keystone 71 = .ok (.aload_n 0, 1) := by decide +kernel
theorem dX9_keystone_72 : decode cX9_keystone 72 = .ok (.iload 4, 2) := by decide +kernel
theorem dX9_keystone_74 : decode cX9_keystone 74 = .ok (.invokevirtual 458, 3) := by decide +kernel
theorem dX9_keystone_77 : decode cX9_keystone 77 = .ok (.invokestatic 324, 3) := by decide +kernel
theorem dX9_keystone_80 : decode cX9_keystone 80 = .ok (.istore_n 3, 1) := by decide +kernel
theorem dX9_keystone_81 : decode cX9_keystone 81 = .ok (.iinc 4 1, 3) := by decide +kernel
theorem dX9_keystone_84 : decode cX9_keystone 84 = .ok (.goto (-64), 3) := by decide +kernel
theorem dX9_keystone_87 : decode cX9_keystone 87 = .ok (.iload_n 2, 1) := by decide +kernel
theorem dX9_keystone_88 : decode cX9_keystone 88 = .ok (.ifCond .ge 7, 3) := by decide +kernel
theorem dX9_keystone_91 : decode cX9_keystone 91 = .ok (.iconst (-1), 1) := by decide +kernel
theorem dX9_keystone_92 : decode cX9_keystone 92 = .ok (.goto 12, 3) := by decide +kernel
theorem dX9_keystone_95 : decode cX9_keystone 95 = .ok (.iload_n 1, 1) := by decide +kernel
theorem dX9_keystone_96 : decode cX9_keystone 96 = .ok (.ifCond .ne 7, 3) := by decide +kernel
theorem dX9_keystone_99 : decode cX9_keystone 99 = .ok (.iload_n 2, 1) := by decide +kernel
theorem dX9_keystone_100 : decode cX9_keystone 100 = .ok (.goto 4, 3) := by decide +kernel
theorem dX9_keystone_103 : decode cX9_keystone 103 = .ok (.iload_n 3, 1) := by decide +kernel
theorem dX9_keystone_104 : decode cX9_keystone 104 = .ok (.ireturn, 1) := by decide +kernel
set_option maxRecDepth 20000 in
theorem ggX9_holds_X9_isFact : GoodIn wsX9_holds wsX9_isFact := goodIn_r _ [6, 7, 8, 9, 10, 11, 5, 12, 13, 14, 15, 16, 17, 18, 19, 20, 116, 117, 118, 119, 120, 121, 122, 123, 124, 125, 126, 127, 128, 129, 130, 131, 132, 133, 134, 135, 136, 137, 138, 139, 140, 141, 142, 143, 144, 145, 146, 147, 148, 149, 150, 151, 152, 153, 154, 155, 156, 157, 158, 159, 160, 161, 162, 163, 164, 165, 166, 167, 168, 169, 170, 171, 172, 173, 174, 175, 176, 177, 178, 179] rfl rfl
set_option maxRecDepth 20000 in
theorem gX9_holds_X9_isFact : GoodIn wsX9_holds (wsV RX9 359 RX9 yX9_isFact wsX9_isFact) := goodIn_app (goodIn_of _ (by decide +kernel)) ggX9_holds_X9_isFact
set_option maxRecDepth 20000 in
theorem ggX9_holds_X9_bit : GoodIn wsX9_holds wsX9_bit := goodIn_r _ [23] rfl rfl
set_option maxRecDepth 20000 in
theorem gX9_holds_X9_bit : GoodIn wsX9_holds (va_wsS RX9 245 yX9_bit wsX9_bit) := goodIn_app (goodIn_of _ (by decide +kernel)) ggX9_holds_X9_bit
set_option maxRecDepth 20000 in
theorem ggX9_holds_X9_standNow : GoodIn wsX9_holds wsX9_standNow := goodIn_r _ [27, 1, 28, 29, 30, 5, 31, 32, 33, 34, 35, 36, 37, 38, 39, 40, 8, 41, 42, 43, 44, 45, 21, 22, 23, 46, 47, 48, 49, 50, 51, 52, 53, 54, 55, 56, 57, 58, 59, 60, 61, 62, 63, 64, 65, 66, 67, 68, 69, 70, 71, 72, 73, 74, 75, 76, 77, 78, 79, 80, 81, 82, 83, 84, 85, 86, 87, 88, 89, 7, 90, 91, 92, 93, 94, 95, 96, 97, 98, 99, 13, 14, 15, 16, 17, 2, 3, 4, 6, 9, 10, 11, 12, 18, 19, 20, 100, 101, 102, 103, 104, 105, 106, 107, 116, 117, 118, 119, 120, 121, 122, 123, 124, 125, 126, 127, 128, 129, 130, 131, 132, 133, 134, 135, 136, 137, 138, 139, 140, 141, 142, 143, 144, 145, 146, 147, 148, 149, 150, 151, 152, 153, 154, 155, 156, 157, 158, 159, 160, 161, 162, 163, 164, 165, 166, 167, 168, 169, 170, 171, 172, 173, 174, 175, 176, 177, 178, 179] rfl rfl
set_option maxRecDepth 20000 in
theorem gX9_holds_X9_standNow : GoodIn wsX9_holds (wsV RX9 402 RX9 yX9_standNow wsX9_standNow) := goodIn_app (goodIn_of _ (by decide +kernel)) ggX9_holds_X9_standNow
set_option maxRecDepth 20000 in
theorem ggX9_holds_X9_claims : GoodIn wsX9_holds wsX9_claims := goodIn_r _ [111, 13, 14, 15, 5, 16, 17, 8, 96, 97, 98, 99, 2, 3, 4, 6, 7, 9, 10, 11, 12, 18, 19, 20, 116, 117, 118, 119, 120, 121, 122, 123, 124, 125, 126, 127, 128, 129, 130, 131, 132, 133, 134, 135, 136, 137, 138, 139, 140, 141, 142, 143, 144, 145, 146, 147, 148, 149, 150, 151, 152, 153, 154, 155, 156, 157, 158, 159, 160, 161, 162, 163, 164, 165, 166, 167, 168, 169, 170, 171, 172, 173, 174, 175, 176, 177, 178, 179] rfl rfl
set_option maxRecDepth 20000 in
theorem gX9_holds_X9_claims : GoodIn wsX9_holds (wsV RX9 405 RX9 yX9_claims wsX9_claims) := goodIn_app (goodIn_of _ (by decide +kernel)) ggX9_holds_X9_claims
set_option maxRecDepth 20000 in
theorem ggX9_holds_X9_without : GoodIn wsX9_holds wsX9_without := goodIn_r _ [115, 1, 28, 29, 30, 5, 31, 32, 33, 34, 35, 36, 37, 38, 39, 40, 8, 41, 42, 43, 44, 45, 21, 22, 23, 46, 47, 48, 49, 50, 51, 52, 53, 54, 55, 56, 57, 58, 59, 60, 61, 62, 63, 64, 65, 66, 67, 68, 69, 70, 71, 72, 73, 74, 75, 76, 77, 78, 79, 80, 81, 82, 83, 84, 85, 86, 87, 88, 89, 7, 90, 91, 92, 93, 94, 95, 96, 97, 98, 99, 13, 14, 15, 16, 17, 2, 3, 4, 6, 9, 10, 11, 12, 18, 19, 20, 100, 101, 102, 103, 104, 105, 106, 107, 108, 109, 110, 111, 116, 117, 118, 119, 120, 121, 122, 123, 124, 125, 126, 127, 128, 129, 130, 131, 132, 133, 134, 135, 136, 137, 138, 139, 140, 141, 142, 143, 144, 145, 146, 147, 148, 149, 150, 151, 152, 153, 154, 155, 156, 157, 158, 159, 160, 161, 162, 163, 164, 165, 166, 167, 168, 169, 170, 171, 172, 173, 174, 175, 176, 177, 178, 179] rfl rfl
set_option maxRecDepth 20000 in
theorem gX9_holds_X9_without : GoodIn wsX9_holds (wsV RX9 458 RX9 yX9_without wsX9_without) := goodIn_app (goodIn_of _ (by decide +kernel)) ggX9_holds_X9_without
theorem dX9_holds_0 : decode cX9_holds 0 = .ok (.aload_n 0, 1) := by decide +kernel
theorem dX9_holds_1 : decode cX9_holds 1 = .ok (.iload_n 1, 1) := by decide +kernel
theorem dX9_holds_2 : decode cX9_holds 2 = .ok (.invokevirtual 359, 3) := by decide +kernel
theorem dX9_holds_5 : decode cX9_holds 5 = .ok (.ifCond .eq 16, 3) := by decide +kernel
theorem dX9_holds_8 : decode cX9_holds 8 = .ok (.aload_n 0, 1) := by decide +kernel
theorem dX9_holds_9 : decode cX9_holds 9 = .ok (.getfield 76, 3) := by decide +kernel
theorem dX9_holds_12 : decode cX9_holds 12 = .ok (.iconst 0, 1) := by decide +kernel
theorem dX9_holds_13 : decode cX9_holds 13 = .ok (.iaload, 1) := by decide +kernel
theorem dX9_holds_14 : decode cX9_holds 14 = .ok (.iload_n 1, 1) := by decide +kernel
theorem dX9_holds_15 : decode cX9_holds 15 = .ok (.invokestatic 245, 3) := by decide +kernel
theorem dX9_holds_18 : decode cX9_holds 18 = .ok (.ifCond .eq 5, 3) := by decide +kernel
theorem dX9_holds_21 : decode cX9_holds 21 = .ok (.iconst (-1), 1) := by decide +kernel
theorem dX9_holds_22 : decode cX9_holds 22 = .ok (.ireturn, 1) := by decide +kernel
theorem dX9_holds_23 : decode cX9_holds 23 = .ok (.aload_n 0, 1) := by decide +kernel
theorem dX9_holds_24 : decode cX9_holds 24 = .ok (.invokevirtual 402, 3) := by decide +kernel
theorem dX9_holds_27 : decode cX9_holds 27 = .ok (.aload_n 0, 1) := by decide +kernel
theorem dX9_holds_28 : decode cX9_holds 28 = .ok (.invokevirtual 405, 3) := by decide +kernel
theorem dX9_holds_31 : decode cX9_holds 31 = .ok (.iand, 1) := by decide +kernel
theorem dX9_holds_32 : decode cX9_holds 32 = .ok (.istore_n 2, 1) := by decide +kernel
theorem dX9_holds_33 : decode cX9_holds 33 = .ok (.iload_n 2, 1) := by decide +kernel
theorem dX9_holds_34 : decode cX9_holds 34 = .ok (.aload_n 0, 1) := by decide +kernel
theorem dX9_holds_35 : decode cX9_holds 35 = .ok (.iload_n 1, 1) := by decide +kernel
theorem dX9_holds_36 : decode cX9_holds 36 = .ok (.invokevirtual 458, 3) := by decide +kernel
theorem dX9_holds_39 : decode cX9_holds 39 = .ok (.iconst (-1), 1) := by decide +kernel
theorem dX9_holds_40 : decode cX9_holds 40 = .ok (.ixor, 1) := by decide +kernel
theorem dX9_holds_41 : decode cX9_holds 41 = .ok (.iand, 1) := by decide +kernel
theorem dX9_holds_42 : decode cX9_holds 42 = .ok (.ireturn, 1) := by decide +kernel
theorem in_X9_keystone_X9 : ∀ w ∈ wsX90, w ∈ wsX9_keystone := fun _ h => List.mem_cons_of_mem _ (List.mem_append_right _ h)
theorem in_X9_holds_X9 : ∀ w ∈ wsX90, w ∈ wsX9_holds := fun _ h => List.mem_cons_of_mem _ (List.mem_append_right _ h)
theorem in_X9_spare_X9 : ∀ w ∈ wsX90, w ∈ wsX9_spare := fun _ h => List.mem_cons_of_mem _ (List.mem_append_right _ h)
theorem in_X9_burdened_X9 : ∀ w ∈ wsX90, w ∈ wsX9_burdened := fun _ h => List.mem_cons_of_mem _ (List.mem_append_right _ h)
theorem in_X9_behind_X9 : ∀ w ∈ wsX90, w ∈ wsX9_behind := fun _ h => List.mem_cons_of_mem _ (List.mem_append_right _ h)
theorem in_X9_law_X9 : ∀ w ∈ wsX90, w ∈ wsX9_law := fun _ h => List.mem_cons_of_mem _ (List.mem_append_right _ h)
theorem in_X9_worth_X9 : ∀ w ∈ wsX90, w ∈ wsX9_worth := fun _ h => List.mem_cons_of_mem _ (List.mem_append_right _ h)
theorem in_X9_perils_X9 : ∀ w ∈ wsX90, w ∈ wsX9_perils := fun _ h => List.mem_cons_of_mem _ (List.mem_append_right _ h)
set_option maxHeartbeats 4000000 in
set_option maxRecDepth 100000 in
theorem s_X9_keystone_0 (l : Launch) (B0 : Nat) (adK adV : Nat → Nat) (D : va_G) (cy : Nat → ClassId) (ad : Nat → Nat) (fr0 : Nat → va_E) (c_text : Nat → Int32) (m_taped : Int32) (m_size : Int32) (m_faultKind : Int32) (m_faultPlace : Int32) (m_at : Int32) (m_end : Int32) (m_token : Int32) (m_number : Int32) (m_name : Int64) (c_points : Nat → Int32) (c_strands : Nat → Int32) (c_units : Nat → Int32) (c_told : Nat → Int32) (c_ruleFrom : Nat → Int32) (c_ruleTo : Nat → Int32) (c_code : Nat → Int32) (c_eWhat : Nat → Int32) (c_eSign : Nat → Int32) (m_bank : Int32) (m_rb : Int32) (m_codes : Int32) (m_within : Int32) (m_piled : Int32) (m_unitsInRule : Int32) (m_askStrand : Int32) (m_askTied : Int32) (m_thoughtClaim : Int32) (m_thoughtNeed : Int32) (m_thoughtAll : Int32) (c_roundOf : Nat → Int32) (m_acts : Int32) (m_undone : Int32) (m_laid : Int32) (m_firstMove : Int32) (m_seens : Int32) (m_time : Int32) (m_waysNow : Int32) (m_fitting : Int32) (f : Nat → va_E) (hT : TYm ad cy fr0 c_text m_taped m_size m_faultKind m_faultPlace m_at m_end m_token m_number m_name c_points c_strands c_units c_told c_ruleFrom c_ruleTo c_code c_eWhat c_eSign m_bank m_rb m_codes m_within m_piled m_unitsInRule m_askStrand m_askTied m_thoughtClaim m_thoughtNeed m_thoughtAll c_roundOf m_acts m_undone m_laid m_firstMove m_seens m_time m_waysNow m_fitting f) (p1 : Int32) (hCV : CVp c_told c_ruleFrom c_ruleTo c_code m_bank) (sz : Nat) : TtI l yX9_keystone wsX9_keystone 7 159 [.ref (ad 148), .int p1] B0 adK adV D cy ad f sz (fun (r : Int32) (g : Nat → va_E) => (-1 ≤ r.toInt ∧ r.toInt ≤ 100000) ∧ (∃ (m_askStrand' : Int32) (m_askTied' : Int32) (c_roundOf' : Nat → Int32), TYm ad cy fr0 c_text m_taped m_size m_faultKind m_faultPlace m_at m_end m_token m_number m_name c_points c_strands c_units c_told c_ruleFrom c_ruleTo c_code c_eWhat c_eSign m_bank m_rb m_codes m_within m_piled m_unitsInRule m_askStrand' m_askTied' m_thoughtClaim m_thoughtNeed m_thoughtAll c_roundOf' m_acts m_undone m_laid m_firstMove m_seens m_time m_waysNow m_fitting g)) := by
  refine TtI.of (cc := cX9_keystone) (maxL := 5) (ty := .int) (own := RX9) (by decide) rfl (Nat.le_of_ble_eq_true rfl) rfl ?_
  intro p e s m below meth c A ls hx hb hr hml hts hown hlk hK hE hP hD hS hA hAB hl
  have hl : lv_has ls 5 [(0, .ref (ad 148)), (1, .int p1)] := hl
  refine st0 (fun H locs hP hS => ?_) hP hS
  have j20 : ∀ (N : Nat) (f : Nat → va_E) (H : Heap) (locs : List Loc) (ls : Array Slot) (v20_l4 : Int32) (v20_l3 : Int32) (v20_l2 : Int32) (v20_p_m_askStrand : Int32) (v20_p_m_askTied : Int32) (v20_p_c_roundOf : Nat → Int32), (11 - v20_l4.toInt ≤ (N : Int)) → (0 ≤ v20_l4.toInt ∧ v20_l4.toInt ≤ 10) → (0 ≤ v20_l3.toInt ∧ v20_l3.toInt ≤ 100000) → (-1 ≤ v20_l2.toInt ∧ v20_l2.toInt ≤ 9) → (0 ≤ p1.toInt ∧ p1.toInt ≤ 1) → (TYm ad cy fr0 c_text m_taped m_size m_faultKind m_faultPlace m_at m_end m_token m_number m_name c_points c_strands c_units c_told c_ruleFrom c_ruleTo c_code c_eWhat c_eSign m_bank m_rb m_codes m_within m_piled m_unitsInRule v20_p_m_askStrand v20_p_m_askTied m_thoughtClaim m_thoughtNeed m_thoughtAll v20_p_c_roundOf m_acts m_undone m_laid m_firstMove m_seens m_time m_waysNow m_fitting f) → (va_P D vwCl (wl ad f) H) → (va_D A (wl ad f)) → (va_S A s.heap H locs) → (lv_has ls 5 [(4, .int v20_l4), (3, .int v20_l3), (2, .int v20_l2), (0, .ref (ad 148)), (1, .int p1)]) → W p l e (rmO 7 159 0 0) s m ([.ref (ad 148), .int p1] : List Value).toArray below meth c H locs 0 0 (MQ below (va_Qi (fun (r : Int32) (g : Nat → va_E) => (-1 ≤ r.toInt ∧ r.toInt ≤ 100000) ∧ (∃ (m_askStrand' : Int32) (m_askTied' : Int32) (c_roundOf' : Nat → Int32), TYm ad cy fr0 c_text m_taped m_size m_faultKind m_faultPlace m_at m_end m_token m_number m_name c_points c_strands c_units c_told c_ruleFrom c_ruleTo c_code c_eWhat c_eSign m_bank m_rb m_codes m_within m_piled m_unitsInRule m_askStrand' m_askTied' m_thoughtClaim m_thoughtNeed m_thoughtAll c_roundOf' m_acts m_undone m_laid m_firstMove m_seens m_time m_waysNow m_fitting g)) (fun g t => PstT D ad g t) A) ([.ref (ad 148), .int p1] : List Value).toArray s 0 0 A) (F0 m 20 ls []) := by
    intro N
    induction N with
    | zero => intro f H locs ls v20_l4 v20_l3 v20_l2 v20_p_m_askStrand v20_p_m_askTied v20_p_c_roundOf hN hv20_l4 hv20_l3 hv20_l2 hv20_l1 hT hP hD hS hl; exact absurd hN (by omega)
    | succ N ih20 =>
      intro f H locs ls v20_l4 v20_l3 v20_l2 v20_p_m_askStrand v20_p_m_askTied v20_p_c_roundOf hN hv20_l4 hv20_l3 hv20_l2 hv20_l1 hT hP hD hS hl
      have j81 : ∀ (f : Nat → va_E) (H : Heap) (locs : List Loc) (ls : Array Slot) (v81_l3 : Int32) (v81_l2 : Int32) (v81_p_m_askStrand : Int32) (v81_p_m_askTied : Int32) (v81_p_c_roundOf : Nat → Int32), (0 ≤ v20_l4.toInt ∧ v20_l4.toInt ≤ 9) → (0 ≤ v81_l3.toInt ∧ v81_l3.toInt ≤ 100000) → (-1 ≤ v81_l2.toInt ∧ v81_l2.toInt ≤ 9) → (0 ≤ p1.toInt ∧ p1.toInt ≤ 1) → (TYm ad cy fr0 c_text m_taped m_size m_faultKind m_faultPlace m_at m_end m_token m_number m_name c_points c_strands c_units c_told c_ruleFrom c_ruleTo c_code c_eWhat c_eSign m_bank m_rb m_codes m_within m_piled m_unitsInRule v81_p_m_askStrand v81_p_m_askTied m_thoughtClaim m_thoughtNeed m_thoughtAll v81_p_c_roundOf m_acts m_undone m_laid m_firstMove m_seens m_time m_waysNow m_fitting f) → (va_P D vwCl (wl ad f) H) → (va_D A (wl ad f)) → (va_S A s.heap H locs) → (lv_has ls 5 [(4, .int v20_l4), (3, .int v81_l3), (2, .int v81_l2), (0, .ref (ad 148)), (1, .int p1)]) → W p l e (rmO 7 159 0 0) s m ([.ref (ad 148), .int p1] : List Value).toArray below meth c H locs 0 0 (MQ below (va_Qi (fun (r : Int32) (g : Nat → va_E) => (-1 ≤ r.toInt ∧ r.toInt ≤ 100000) ∧ (∃ (m_askStrand' : Int32) (m_askTied' : Int32) (c_roundOf' : Nat → Int32), TYm ad cy fr0 c_text m_taped m_size m_faultKind m_faultPlace m_at m_end m_token m_number m_name c_points c_strands c_units c_told c_ruleFrom c_ruleTo c_code c_eWhat c_eSign m_bank m_rb m_codes m_within m_piled m_unitsInRule m_askStrand' m_askTied' m_thoughtClaim m_thoughtNeed m_thoughtAll c_roundOf' m_acts m_undone m_laid m_firstMove m_seens m_time m_waysNow m_fitting g)) (fun g t => PstT D ad g t) A) ([.ref (ad 148), .int p1] : List Value).toArray s 0 0 A) (F0 m 81 ls []) := by
        intro f H locs ls v81_l3 v81_l2 v81_p_m_askStrand v81_p_m_askTied v81_p_c_roundOf hv81_l4 hv81_l3 hv81_l2 hv81_l1 hT hP hD hS hl
        obtain ⟨x1, ex1⟩ : ∃ q : Int32, q = v20_l4 + Int32.ofInt (1) := ⟨_, rfl⟩
        refine lv_iinc (v := x1) (lv' := [(4, .int x1), (3, .int v81_l3), (2, .int v81_l2), (0, .ref (ad 148)), (1, .int p1)]) hx hb dX9_keystone_81 hl (k := 0) rfl ex1.symm (by decide) rfl (fun ls hl => ?_)
        have hx1 := r_inc ex1 (by decide) (by omega) (by omega)
        refine lv_goto (tgt := 20) hx hb dX9_keystone_84 (by decide) ?_
        exact ih20 f H locs ls x1 v81_l3 v81_l2 v81_p_m_askStrand v81_p_m_askTied v81_p_c_roundOf (by omega) (by omega) (by omega) (by omega) (by omega) hT hP hD hS (lv_sub hl [0, 1, 2, 3, 4] rfl)
      refine lv_iload hx hb dX9_keystone_20 (lv_at hl 0 rfl) ?_
      refine lv_aload_n hx hb dX9_keystone_22 rfl (lv_at hl 3 rfl) ?_
      obtain ⟨e17, h2, h3, h4, h5, h6, h7, h8, h9, h10, h11, h12, h13, h14, h15, h16⟩ := (show okX9 ad m_taped m_size m_faultKind m_faultPlace m_at m_end m_token m_number m_name m_bank m_rb m_codes m_within m_piled m_unitsInRule v20_p_m_askStrand v20_p_m_askTied m_thoughtClaim m_thoughtNeed m_thoughtAll m_acts m_undone m_laid m_firstMove m_seens m_time m_waysNow m_fitting 148 (f 148) from hT.1 148 (by decide))
      refine tVI (As := []) (rest := [.int v20_l4]) (i := 148) ⟨hx, hb, hml, hown, hts⟩ hK hE hP hD hS hA hAB (s_X9_many_0 l B0 adK adV D cy ad fr0 c_text m_taped m_size m_faultKind m_faultPlace m_at m_end m_token m_number m_name c_points c_strands c_units c_told c_ruleFrom c_ruleTo c_code c_eWhat c_eSign m_bank m_rb m_codes m_within m_piled m_unitsInRule v20_p_m_askStrand v20_p_m_askTied m_thoughtClaim m_thoughtNeed m_thoughtAll v20_p_c_roundOf m_acts m_undone m_laid m_firstMove m_seens m_time m_waysNow m_fitting f hT _) (cwV 0 hts gX9_keystone_X9_many rfl rfl rfl (by decide +kernel) ⟨Nat.le_of_ble_eq_true rfl, Nat.le_of_ble_eq_true rfl⟩) (by decide) 9 e17 rfl rfl hl.1 rfl (Nat.le_of_ble_eq_true rfl) dX9_keystone_23 ⟨Nat.le_of_ble_eq_true rfl, Nat.le_of_ble_eq_true rfl⟩ (fun r g H locs hw hP hD hS => ?_)
      obtain ⟨hrs, rfl⟩ := hw
      obtain ⟨x18, rfl⟩ : ∃ q, q = r := ⟨_, rfl⟩
      have h19 := hrs
      refine lv_icmp_ge (tgt := 87) hx hb dX9_keystone_26 (by decide) (fun c20 => ?_) (fun c20 => ?_)
      · have kc20 := c_le c20
        refine lv_iload_n hx hb dX9_keystone_87 rfl (lv_at hl 2 rfl) ?_
        have ttl_0 := tl_0
        refine lv_if_ge (tgt := 95) hx hb dX9_keystone_88 (by decide) (fun c21 => ?_) (fun c21 => ?_)
        · have kc21 := c_le c21
          refine lv_iload_n hx hb dX9_keystone_95 rfl (lv_at hl 4 rfl) ?_
          refine lv_if_ne (tgt := 103) hx hb dX9_keystone_96 (by decide) (fun c22 => ?_) (fun c22 => ?_)
          · have kc22 := c_ne c22
            refine lv_iload_n hx hb dX9_keystone_103 rfl (lv_at hl 1 rfl) ?_
            exact tI hx hb hr hlk rfl hP hS ⟨(by omega), ⟨v20_p_m_askStrand, v20_p_m_askTied, v20_p_c_roundOf, hT⟩⟩ dX9_keystone_104
          · have kc22 := c_eq c22
            refine lv_iload_n hx hb dX9_keystone_99 rfl (lv_at hl 2 rfl) ?_
            refine lv_goto (tgt := 104) hx hb dX9_keystone_100 (by decide) ?_
            exact tI hx hb hr hlk rfl hP hS ⟨(by omega), ⟨v20_p_m_askStrand, v20_p_m_askTied, v20_p_c_roundOf, hT⟩⟩ dX9_keystone_104
        · have kc21 := c_nle c21
          refine lv_iconst (v := (-1)) hx hb dX9_keystone_91 (by decide) ?_
          refine lv_goto (tgt := 104) hx hb dX9_keystone_92 (by decide) ?_
          have ttl_m1 := tl_m1
          exact tI hx hb hr hlk rfl hP hS ⟨(by omega), ⟨v20_p_m_askStrand, v20_p_m_askTied, v20_p_c_roundOf, hT⟩⟩ dX9_keystone_104
      · have kc20 := c_nle c20
        refine lv_aload_n hx hb dX9_keystone_29 rfl (lv_at hl 3 rfl) ?_
        refine lv_iload hx hb dX9_keystone_30 (lv_at hl 0 rfl) ?_
        refine tVI (As := [.int v20_l4]) (rest := []) (i := 148) ⟨hx, hb, hml, hown, hts⟩ hK hE hP hD hS hA hAB (s_X9_isFact_0 l B0 adK adV D cy ad fr0 c_text m_taped m_size m_faultKind m_faultPlace m_at m_end m_token m_number m_name c_points c_strands c_units c_told c_ruleFrom c_ruleTo c_code c_eWhat c_eSign m_bank m_rb m_codes m_within m_piled m_unitsInRule v20_p_m_askStrand v20_p_m_askTied m_thoughtClaim m_thoughtNeed m_thoughtAll v20_p_c_roundOf m_acts m_undone m_laid m_firstMove m_seens m_time m_waysNow m_fitting f hT v20_l4 _) (cwV 1 hts gX9_keystone_X9_isFact rfl rfl rfl (by decide +kernel) ⟨Nat.le_of_ble_eq_true rfl, Nat.le_of_ble_eq_true rfl⟩) (by decide) 9 e17 rfl rfl hl.1 rfl (Nat.le_of_ble_eq_true rfl) dX9_keystone_32 ⟨Nat.le_of_ble_eq_true rfl, Nat.le_of_ble_eq_true rfl⟩ (fun r g H locs hw hP hD hS => ?_)
        obtain ⟨hrs, rfl⟩ := hw
        obtain ⟨x23, rfl⟩ : ∃ q, q = r := ⟨_, rfl⟩
        rcases hrs with ⟨rfl, h24, h25⟩ | rfl
        · refine lv_if_eq (tgt := 81) hx hb dX9_keystone_35 (by decide) (fun c => absurd c (by decide)) (fun _ => ?_)
          refine lv_aload_n hx hb dX9_keystone_38 rfl (lv_at hl 3 rfl) ?_
          refine va_get (D := D) (cl := vwCl) (ci := 9) (v := .ref (ad 169)) (C := RX9) (T := TX9) (N := 64) hx hb hts in_X9_keystone_X9 hown hK hP 148 (wl_at (by decide) e17) rfl 37 (by decide) (hts (.fieldLink RX9 76 "EightReasonsModel" "all" "[I") (List.mem_of_getElem? (i := 2) rfl)) (fun _ h9 => h9) rfl dX9_keystone_39 ?_
          refine lv_iconst (v := 0) hx hb dX9_keystone_42 (by decide) ?_
          obtain ⟨g28, e26, h27⟩ := (show okIr cy 16 (0) (4095) 16 1 (f 169) from hT.1 169 (by decide))
          have ttl_0 := tl_0
          refine va_iald hx hb hK hP 169 0 (wl_at (by decide) e26) rfl (vin (by decide)) dX9_keystone_43 ?_
          refine lv_topi (fun x29 ex29 => ?_)
          refine lv_iload hx hb dX9_keystone_44 (lv_at hl 0 rfl) ?_
          refine tSI (As := [.int x29, .int v20_l4]) (rest := []) ⟨hx, hb, hml, hown, hts⟩ hK hE hP hD hS hA hAB (s_X9_bit_0 l B0 adK adV D cy ad f x29 v20_l4 (by omega) _) (va_cwS 2 hts gX9_keystone_X9_bit rfl rfl rfl (by decide +kernel) ⟨Nat.le_of_ble_eq_true rfl, Nat.le_of_ble_eq_true rfl⟩) rfl hl.1 rfl (Nat.le_of_ble_eq_true rfl) dX9_keystone_46 ⟨Nat.le_of_ble_eq_true rfl, Nat.le_of_ble_eq_true rfl⟩ (fun r g H locs hw hP hD hS => ?_)
          obtain ⟨hrs, rfl⟩ := hw
          obtain ⟨x30, rfl⟩ : ∃ q, q = r := ⟨_, rfl⟩
          rcases hrs with ⟨rfl, h31⟩ | ⟨rfl, h32⟩
          · refine lv_if_ne (tgt := 81) hx hb dX9_keystone_49 (by decide) (fun _ => ?_) (fun c => absurd c (by decide))
            exact j81 f H locs ls v20_l3 v20_l2 v20_p_m_askStrand v20_p_m_askTied v20_p_c_roundOf (by omega) (by omega) (by omega) (by omega) hT hP hD hS (lv_sub hl [0, 1, 2, 3, 4] rfl)
          · refine lv_if_ne (tgt := 81) hx hb dX9_keystone_49 (by decide) (fun c => absurd (by decide) c) (fun _ => ?_)
            refine lv_aload_n hx hb dX9_keystone_52 rfl (lv_at hl 3 rfl) ?_
            refine lv_iload hx hb dX9_keystone_53 (lv_at hl 0 rfl) ?_
            refine tVI (As := [.int v20_l4]) (rest := []) (i := 148) ⟨hx, hb, hml, hown, hts⟩ hK hE hP hD hS hA hAB (s_X9_without_0 l B0 adK adV D cy ad fr0 c_text m_taped m_size m_faultKind m_faultPlace m_at m_end m_token m_number m_name c_points c_strands c_units c_told c_ruleFrom c_ruleTo c_code c_eWhat c_eSign m_bank m_rb m_codes m_within m_piled m_unitsInRule v20_p_m_askStrand v20_p_m_askTied m_thoughtClaim m_thoughtNeed m_thoughtAll v20_p_c_roundOf m_acts m_undone m_laid m_firstMove m_seens m_time m_waysNow m_fitting f hT v20_l4 (by omega) hCV _) (cwV 1 hts gX9_keystone_X9_without rfl rfl rfl (by decide +kernel) ⟨Nat.le_of_ble_eq_true rfl, Nat.le_of_ble_eq_true rfl⟩) (by decide) 9 e17 rfl rfl hl.1 rfl (Nat.le_of_ble_eq_true rfl) dX9_keystone_55 ⟨Nat.le_of_ble_eq_true rfl, Nat.le_of_ble_eq_true rfl⟩ (fun r f H locs hw hP hD hS => ?_)
            obtain ⟨hrs, x33, x34, y35, hT, h36⟩ := hw
            obtain ⟨x37, rfl⟩ : ∃ q, q = r := ⟨_, rfl⟩
            have h38 := hrs
            refine tSI (As := [.int x37]) (rest := []) ⟨hx, hb, hml, hown, hts⟩ hK hE hP hD hS hA hAB (s_X9_bitsOf_0 l B0 adK adV D cy ad f x37 (by omega) _) (va_cwS 1 hts gX9_keystone_X9_bitsOf rfl rfl rfl (by decide +kernel) ⟨Nat.le_of_ble_eq_true rfl, Nat.le_of_ble_eq_true rfl⟩) rfl hl.1 rfl (Nat.le_of_ble_eq_true rfl) dX9_keystone_58 ⟨Nat.le_of_ble_eq_true rfl, Nat.le_of_ble_eq_true rfl⟩ (fun r g H locs hw hP hD hS => ?_)
            obtain ⟨hrs, rfl⟩ := hw
            obtain ⟨x39, rfl⟩ : ∃ q, q = r := ⟨_, rfl⟩
            have h40 := hrs
            refine lv_iload_n hx hb dX9_keystone_61 rfl (lv_at hl 1 rfl) ?_
            refine lv_icmp_lt (tgt := 68) hx hb dX9_keystone_62 (by decide) (fun c41 => ?_) (fun c41 => ?_)
            · have kc41 := c_lt c41
              refine lv_iload hx hb dX9_keystone_68 (lv_at hl 0 rfl) ?_
              refine lv_istore_n (lv' := [(2, .int v20_l4), (4, .int v20_l4), (3, .int v20_l3), (0, .ref (ad 148)), (1, .int p1)]) hx hb dX9_keystone_70 rfl hl (by decide) rfl (fun ls hl => ?_)
              refine lv_aload_n hx hb dX9_keystone_71 rfl (lv_at hl 3 rfl) ?_
              refine lv_iload hx hb dX9_keystone_72 (lv_at hl 1 rfl) ?_
              obtain ⟨e57, h42, h43, h44, h45, h46, h47, h48, h49, h50, h51, h52, h53, h54, h55, h56⟩ := (show okX9 ad m_taped m_size m_faultKind m_faultPlace m_at m_end m_token m_number m_name m_bank m_rb m_codes m_within m_piled m_unitsInRule x33 x34 m_thoughtClaim m_thoughtNeed m_thoughtAll m_acts m_undone m_laid m_firstMove m_seens m_time m_waysNow m_fitting 148 (f 148) from hT.1 148 (by decide))
              refine tVI (As := [.int v20_l4]) (rest := []) (i := 148) ⟨hx, hb, hml, hown, hts⟩ hK hE hP hD hS hA hAB (s_X9_without_0 l B0 adK adV D cy ad fr0 c_text m_taped m_size m_faultKind m_faultPlace m_at m_end m_token m_number m_name c_points c_strands c_units c_told c_ruleFrom c_ruleTo c_code c_eWhat c_eSign m_bank m_rb m_codes m_within m_piled m_unitsInRule x33 x34 m_thoughtClaim m_thoughtNeed m_thoughtAll y35 m_acts m_undone m_laid m_firstMove m_seens m_time m_waysNow m_fitting f hT v20_l4 (by omega) hCV _) (cwV 1 hts gX9_keystone_X9_without rfl rfl rfl (by decide +kernel) ⟨Nat.le_of_ble_eq_true rfl, Nat.le_of_ble_eq_true rfl⟩) (by decide) 9 e57 rfl rfl hl.1 rfl (Nat.le_of_ble_eq_true rfl) dX9_keystone_74 ⟨Nat.le_of_ble_eq_true rfl, Nat.le_of_ble_eq_true rfl⟩ (fun r f H locs hw hP hD hS => ?_)
              obtain ⟨hrs, x58, x59, y60, hT, h61⟩ := hw
              obtain ⟨x62, rfl⟩ : ∃ q, q = r := ⟨_, rfl⟩
              have h63 := hrs
              refine tSI (As := [.int x62]) (rest := []) ⟨hx, hb, hml, hown, hts⟩ hK hE hP hD hS hA hAB (s_X9_bitsOf_0 l B0 adK adV D cy ad f x62 (by omega) _) (va_cwS 1 hts gX9_keystone_X9_bitsOf rfl rfl rfl (by decide +kernel) ⟨Nat.le_of_ble_eq_true rfl, Nat.le_of_ble_eq_true rfl⟩) rfl hl.1 rfl (Nat.le_of_ble_eq_true rfl) dX9_keystone_77 ⟨Nat.le_of_ble_eq_true rfl, Nat.le_of_ble_eq_true rfl⟩ (fun r g H locs hw hP hD hS => ?_)
              obtain ⟨hrs, rfl⟩ := hw
              obtain ⟨x64, rfl⟩ : ∃ q, q = r := ⟨_, rfl⟩
              have h65 := hrs
              refine lv_istore_n (lv' := [(3, .int x64), (2, .int v20_l4), (4, .int v20_l4), (0, .ref (ad 148)), (1, .int p1)]) hx hb dX9_keystone_80 rfl hl (by decide) rfl (fun ls hl => ?_)
              exact j81 f H locs ls x64 v20_l4 x58 x59 y60 (by omega) (by omega) (by omega) (by omega) hT hP hD hS (lv_sub hl [2, 0, 1, 3, 4] rfl)
            · have kc41 := c_nlt c41
              refine lv_goto (tgt := 81) hx hb dX9_keystone_65 (by decide) ?_
              exact j81 f H locs ls v20_l3 v20_l2 x33 x34 y35 (by omega) (by omega) (by omega) (by omega) hT hP hD hS (lv_sub hl [0, 1, 2, 3, 4] rfl)
        · refine lv_if_eq (tgt := 81) hx hb dX9_keystone_35 (by decide) (fun _ => ?_) (fun c => absurd (by decide) c)
          exact j81 f H locs ls v20_l3 v20_l2 v20_p_m_askStrand v20_p_m_askTied v20_p_c_roundOf (by omega) (by omega) (by omega) (by omega) hT hP hD hS (lv_sub hl [0, 1, 2, 3, 4] rfl)
  refine lv_iload_n hx hb dX9_keystone_0 rfl (lv_at hl 1 rfl) ?_
  refine lv_iconst (v := 0) hx hb dX9_keystone_1 (by decide) ?_
  refine lv_iconst (v := 1) hx hb dX9_keystone_2 (by decide) ?_
  have ttl_0 := tl_0
  have ttl_1 := tl_1
  refine tSI (As := [.int p1, .int 0, .int 1]) (rest := []) ⟨hx, hb, hml, hown, hts⟩ hK hE hP hD hS hA hAB (s_X9_isIn_0 l B0 adK adV D cy ad f p1 (0 : Int32) (by omega) (1 : Int32) (by omega) _) (va_cwS 3 hts gX9_keystone_X9_isIn rfl rfl rfl (by decide +kernel) ⟨Nat.le_of_ble_eq_true rfl, Nat.le_of_ble_eq_true rfl⟩) rfl hl.1 rfl (Nat.le_of_ble_eq_true rfl) dX9_keystone_3 ⟨Nat.le_of_ble_eq_true rfl, Nat.le_of_ble_eq_true rfl⟩ (fun r g H locs hw hP hD hS => ?_)
  obtain ⟨hrs, rfl⟩ := hw
  obtain ⟨x66, rfl⟩ : ∃ q, q = r := ⟨_, rfl⟩
  rcases hrs with ⟨rfl, h67, h68⟩ | rfl
  · refine lv_if_ne (tgt := 11) hx hb dX9_keystone_6 (by decide) (fun _ => ?_) (fun c => absurd c (by decide))
    refine lv_iconst (v := (-1)) hx hb dX9_keystone_11 (by decide) ?_
    refine lv_istore_n (lv' := [(2, .int (-1)), (0, .ref (ad 148)), (1, .int p1)]) hx hb dX9_keystone_12 rfl hl (by decide) rfl (fun ls hl => ?_)
    refine lv_ldcw (v := 100000) hx hb hown (hts (.constant RX9 457 (100000)) (List.mem_of_getElem? (i := 1) rfl)) dX9_keystone_13 ?_
    refine lv_istore_n (lv' := [(3, .int 100000), (2, .int (-1)), (0, .ref (ad 148)), (1, .int p1)]) hx hb dX9_keystone_16 rfl hl (by decide) rfl (fun ls hl => ?_)
    refine lv_iconst (v := 0) hx hb dX9_keystone_17 (by decide) ?_
    refine lv_istore (lv' := [(4, .int 0), (3, .int 100000), (2, .int (-1)), (0, .ref (ad 148)), (1, .int p1)]) hx hb dX9_keystone_18 hl (by decide) rfl (fun ls hl => ?_)
    have ttl_100000 := tl_100000
    have ttl_m1 := tl_m1
    exact j20 (Int.toNat (11 - (0 : Int32).toInt)) f H locs ls (0 : Int32) (100000 : Int32) ((-1) : Int32) m_askStrand m_askTied c_roundOf (by omega) (by omega) (by omega) (by omega) (by omega) hT hP hD hS (lv_sub hl [0, 1, 2, 3, 4] rfl)
  · refine lv_if_ne (tgt := 11) hx hb dX9_keystone_6 (by decide) (fun c => absurd (by decide) c) (fun _ => ?_)
    refine lv_iconst (v := (-1)) hx hb dX9_keystone_9 (by decide) ?_
    have ttl_m1 := tl_m1
    exact tI hx hb hr hlk rfl hP hS ⟨(by omega), ⟨m_askStrand, m_askTied, c_roundOf, hT⟩⟩ dX9_keystone_10
set_option maxHeartbeats 4000000 in
set_option maxRecDepth 100000 in
theorem s_X9_holds_0 (l : Launch) (B0 : Nat) (adK adV : Nat → Nat) (D : va_G) (cy : Nat → ClassId) (ad : Nat → Nat) (fr0 : Nat → va_E) (c_text : Nat → Int32) (m_taped : Int32) (m_size : Int32) (m_faultKind : Int32) (m_faultPlace : Int32) (m_at : Int32) (m_end : Int32) (m_token : Int32) (m_number : Int32) (m_name : Int64) (c_points : Nat → Int32) (c_strands : Nat → Int32) (c_units : Nat → Int32) (c_told : Nat → Int32) (c_ruleFrom : Nat → Int32) (c_ruleTo : Nat → Int32) (c_code : Nat → Int32) (c_eWhat : Nat → Int32) (c_eSign : Nat → Int32) (m_bank : Int32) (m_rb : Int32) (m_codes : Int32) (m_within : Int32) (m_piled : Int32) (m_unitsInRule : Int32) (m_askStrand : Int32) (m_askTied : Int32) (m_thoughtClaim : Int32) (m_thoughtNeed : Int32) (m_thoughtAll : Int32) (c_roundOf : Nat → Int32) (m_acts : Int32) (m_undone : Int32) (m_laid : Int32) (m_firstMove : Int32) (m_seens : Int32) (m_time : Int32) (m_waysNow : Int32) (m_fitting : Int32) (f : Nat → va_E) (hT : TYm ad cy fr0 c_text m_taped m_size m_faultKind m_faultPlace m_at m_end m_token m_number m_name c_points c_strands c_units c_told c_ruleFrom c_ruleTo c_code c_eWhat c_eSign m_bank m_rb m_codes m_within m_piled m_unitsInRule m_askStrand m_askTied m_thoughtClaim m_thoughtNeed m_thoughtAll c_roundOf m_acts m_undone m_laid m_firstMove m_seens m_time m_waysNow m_fitting f) (p1 : Int32) (hCV : CVp c_told c_ruleFrom c_ruleTo c_code m_bank) (sz : Nat) : TtI l yX9_holds wsX9_holds 7 159 [.ref (ad 148), .int p1] B0 adK adV D cy ad f sz (fun (r : Int32) (g : Nat → va_E) => (-1 ≤ r.toInt ∧ r.toInt ≤ 1023) ∧ (∃ (m_askStrand' : Int32) (m_askTied' : Int32) (c_roundOf' : Nat → Int32), TYm ad cy fr0 c_text m_taped m_size m_faultKind m_faultPlace m_at m_end m_token m_number m_name c_points c_strands c_units c_told c_ruleFrom c_ruleTo c_code c_eWhat c_eSign m_bank m_rb m_codes m_within m_piled m_unitsInRule m_askStrand' m_askTied' m_thoughtClaim m_thoughtNeed m_thoughtAll c_roundOf' m_acts m_undone m_laid m_firstMove m_seens m_time m_waysNow m_fitting g)) := by
  refine TtI.of (cc := cX9_holds) (maxL := 3) (ty := .int) (own := RX9) (by decide) rfl (Nat.le_of_ble_eq_true rfl) rfl ?_
  intro p e s m below meth c A ls hx hb hr hml hts hown hlk hK hE hP hD hS hA hAB hl
  have hl : lv_has ls 3 [(0, .ref (ad 148)), (1, .int p1)] := hl
  refine st0 (fun H locs hP hS => ?_) hP hS
  refine lv_aload_n hx hb dX9_holds_0 rfl (lv_at hl 0 rfl) ?_
  refine lv_iload_n hx hb dX9_holds_1 rfl (lv_at hl 1 rfl) ?_
  obtain ⟨e16, h1, h2, h3, h4, h5, h6, h7, h8, h9, h10, h11, h12, h13, h14, h15⟩ := (show okX9 ad m_taped m_size m_faultKind m_faultPlace m_at m_end m_token m_number m_name m_bank m_rb m_codes m_within m_piled m_unitsInRule m_askStrand m_askTied m_thoughtClaim m_thoughtNeed m_thoughtAll m_acts m_undone m_laid m_firstMove m_seens m_time m_waysNow m_fitting 148 (f 148) from hT.1 148 (by decide))
  refine tVI (As := [.int p1]) (rest := []) (i := 148) ⟨hx, hb, hml, hown, hts⟩ hK hE hP hD hS hA hAB (s_X9_isFact_0 l B0 adK adV D cy ad fr0 c_text m_taped m_size m_faultKind m_faultPlace m_at m_end m_token m_number m_name c_points c_strands c_units c_told c_ruleFrom c_ruleTo c_code c_eWhat c_eSign m_bank m_rb m_codes m_within m_piled m_unitsInRule m_askStrand m_askTied m_thoughtClaim m_thoughtNeed m_thoughtAll c_roundOf m_acts m_undone m_laid m_firstMove m_seens m_time m_waysNow m_fitting f hT p1 _) (cwV 1 hts gX9_holds_X9_isFact rfl rfl rfl (by decide +kernel) ⟨Nat.le_of_ble_eq_true rfl, Nat.le_of_ble_eq_true rfl⟩) (by decide) 9 e16 rfl rfl hl.1 rfl (Nat.le_of_ble_eq_true rfl) dX9_holds_2 ⟨Nat.le_of_ble_eq_true rfl, Nat.le_of_ble_eq_true rfl⟩ (fun r g H locs hw hP hD hS => ?_)
  obtain ⟨hrs, rfl⟩ := hw
  obtain ⟨x17, rfl⟩ : ∃ q, q = r := ⟨_, rfl⟩
  rcases hrs with ⟨rfl, h18, h19⟩ | rfl
  · refine lv_if_eq (tgt := 21) hx hb dX9_holds_5 (by decide) (fun c => absurd c (by decide)) (fun _ => ?_)
    refine lv_aload_n hx hb dX9_holds_8 rfl (lv_at hl 0 rfl) ?_
    refine va_get (D := D) (cl := vwCl) (ci := 9) (v := .ref (ad 169)) (C := RX9) (T := TX9) (N := 64) hx hb hts in_X9_holds_X9 hown hK hP 148 (wl_at (by decide) e16) rfl 37 (by decide) (hts (.fieldLink RX9 76 "EightReasonsModel" "all" "[I") (List.mem_of_getElem? (i := 1) rfl)) (fun _ h9 => h9) rfl dX9_holds_9 ?_
    refine lv_iconst (v := 0) hx hb dX9_holds_12 (by decide) ?_
    obtain ⟨g22, e20, h21⟩ := (show okIr cy 16 (0) (4095) 16 1 (f 169) from hT.1 169 (by decide))
    have ttl_0 := tl_0
    refine va_iald hx hb hK hP 169 0 (wl_at (by decide) e20) rfl (vin (by decide)) dX9_holds_13 ?_
    refine lv_topi (fun x23 ex23 => ?_)
    refine lv_iload_n hx hb dX9_holds_14 rfl (lv_at hl 1 rfl) ?_
    refine tSI (As := [.int x23, .int p1]) (rest := []) ⟨hx, hb, hml, hown, hts⟩ hK hE hP hD hS hA hAB (s_X9_bit_0 l B0 adK adV D cy ad f x23 p1 (by omega) _) (va_cwS 2 hts gX9_holds_X9_bit rfl rfl rfl (by decide +kernel) ⟨Nat.le_of_ble_eq_true rfl, Nat.le_of_ble_eq_true rfl⟩) rfl hl.1 rfl (Nat.le_of_ble_eq_true rfl) dX9_holds_15 ⟨Nat.le_of_ble_eq_true rfl, Nat.le_of_ble_eq_true rfl⟩ (fun r g H locs hw hP hD hS => ?_)
    obtain ⟨hrs, rfl⟩ := hw
    obtain ⟨x24, rfl⟩ : ∃ q, q = r := ⟨_, rfl⟩
    rcases hrs with ⟨rfl, h25⟩ | ⟨rfl, h26⟩
    · refine lv_if_eq (tgt := 23) hx hb dX9_holds_18 (by decide) (fun c => absurd c (by decide)) (fun _ => ?_)
      refine lv_iconst (v := (-1)) hx hb dX9_holds_21 (by decide) ?_
      have ttl_m1 := tl_m1
      exact tI hx hb hr hlk rfl hP hS ⟨(by omega), ⟨m_askStrand, m_askTied, c_roundOf, hT⟩⟩ dX9_holds_22
    · refine lv_if_eq (tgt := 23) hx hb dX9_holds_18 (by decide) (fun _ => ?_) (fun c => absurd (by decide) c)
      refine lv_aload_n hx hb dX9_holds_23 rfl (lv_at hl 0 rfl) ?_
      refine tVI (As := []) (rest := []) (i := 148) ⟨hx, hb, hml, hown, hts⟩ hK hE hP hD hS hA hAB (s_X9_standNow_0 l B0 adK adV D cy ad fr0 c_text m_taped m_size m_faultKind m_faultPlace m_at m_end m_token m_number m_name c_points c_strands c_units c_told c_ruleFrom c_ruleTo c_code c_eWhat c_eSign m_bank m_rb m_codes m_within m_piled m_unitsInRule m_askStrand m_askTied m_thoughtClaim m_thoughtNeed m_thoughtAll c_roundOf m_acts m_undone m_laid m_firstMove m_seens m_time m_waysNow m_fitting f hT hCV _) (cwV 0 hts gX9_holds_X9_standNow rfl rfl rfl (by decide +kernel) ⟨Nat.le_of_ble_eq_true rfl, Nat.le_of_ble_eq_true rfl⟩) (by decide) 9 e16 rfl rfl hl.1 rfl (Nat.le_of_ble_eq_true rfl) dX9_holds_24 ⟨Nat.le_of_ble_eq_true rfl, Nat.le_of_ble_eq_true rfl⟩ (fun r f H locs hw hP hD hS => ?_)
      obtain ⟨hrs, x27, x28, y29, hT, h30⟩ := hw
      obtain ⟨x31, rfl⟩ : ∃ q, q = r := ⟨_, rfl⟩
      have h32 := hrs
      refine lv_aload_n hx hb dX9_holds_27 rfl (lv_at hl 0 rfl) ?_
      obtain ⟨e48, h33, h34, h35, h36, h37, h38, h39, h40, h41, h42, h43, h44, h45, h46, h47⟩ := (show okX9 ad m_taped m_size m_faultKind m_faultPlace m_at m_end m_token m_number m_name m_bank m_rb m_codes m_within m_piled m_unitsInRule x27 x28 m_thoughtClaim m_thoughtNeed m_thoughtAll m_acts m_undone m_laid m_firstMove m_seens m_time m_waysNow m_fitting 148 (f 148) from hT.1 148 (by decide))
      refine tVI (As := []) (rest := [.int x31]) (i := 148) ⟨hx, hb, hml, hown, hts⟩ hK hE hP hD hS hA hAB (s_X9_claims_0 l B0 adK adV D cy ad fr0 c_text m_taped m_size m_faultKind m_faultPlace m_at m_end m_token m_number m_name c_points c_strands c_units c_told c_ruleFrom c_ruleTo c_code c_eWhat c_eSign m_bank m_rb m_codes m_within m_piled m_unitsInRule x27 x28 m_thoughtClaim m_thoughtNeed m_thoughtAll y29 m_acts m_undone m_laid m_firstMove m_seens m_time m_waysNow m_fitting f hT _) (cwV 0 hts gX9_holds_X9_claims rfl rfl rfl (by decide +kernel) ⟨Nat.le_of_ble_eq_true rfl, Nat.le_of_ble_eq_true rfl⟩) (by decide) 9 e48 rfl rfl hl.1 rfl (Nat.le_of_ble_eq_true rfl) dX9_holds_28 ⟨Nat.le_of_ble_eq_true rfl, Nat.le_of_ble_eq_true rfl⟩ (fun r g H locs hw hP hD hS => ?_)
      obtain ⟨hrs, rfl⟩ := hw
      obtain ⟨x49, rfl⟩ : ∃ q, q = r := ⟨_, rfl⟩
      have h50 := hrs
      refine lv_iand hx hb dX9_holds_31 ?_
      refine lv_topi (fun x51 ex51 => ?_)
      have hx51 := r_andr ex51 (by omega)
      refine lv_istore_n (lv' := [(2, .int x51), (0, .ref (ad 148)), (1, .int p1)]) hx hb dX9_holds_32 rfl hl (by decide) rfl (fun ls hl => ?_)
      refine lv_iload_n hx hb dX9_holds_33 rfl (lv_at hl 0 rfl) ?_
      refine lv_aload_n hx hb dX9_holds_34 rfl (lv_at hl 1 rfl) ?_
      refine lv_iload_n hx hb dX9_holds_35 rfl (lv_at hl 2 rfl) ?_
      refine tVI (As := [.int p1]) (rest := [.int x51]) (i := 148) ⟨hx, hb, hml, hown, hts⟩ hK hE hP hD hS hA hAB (s_X9_without_0 l B0 adK adV D cy ad fr0 c_text m_taped m_size m_faultKind m_faultPlace m_at m_end m_token m_number m_name c_points c_strands c_units c_told c_ruleFrom c_ruleTo c_code c_eWhat c_eSign m_bank m_rb m_codes m_within m_piled m_unitsInRule x27 x28 m_thoughtClaim m_thoughtNeed m_thoughtAll y29 m_acts m_undone m_laid m_firstMove m_seens m_time m_waysNow m_fitting f hT p1 (by omega) hCV _) (cwV 1 hts gX9_holds_X9_without rfl rfl rfl (by decide +kernel) ⟨Nat.le_of_ble_eq_true rfl, Nat.le_of_ble_eq_true rfl⟩) (by decide) 9 e48 rfl rfl hl.1 rfl (Nat.le_of_ble_eq_true rfl) dX9_holds_36 ⟨Nat.le_of_ble_eq_true rfl, Nat.le_of_ble_eq_true rfl⟩ (fun r f H locs hw hP hD hS => ?_)
      obtain ⟨hrs, x52, x53, y54, hT, h55⟩ := hw
      obtain ⟨x56, rfl⟩ : ∃ q, q = r := ⟨_, rfl⟩
      have h57 := hrs
      refine lv_iconst (v := (-1)) hx hb dX9_holds_39 (by decide) ?_
      refine lv_ixor hx hb dX9_holds_40 ?_
      refine lv_topi (fun x58 ex58 => ?_)
      refine lv_iand hx hb dX9_holds_41 ?_
      refine lv_topi (fun x59 ex59 => ?_)
      have hx59 := r_andl ex59 (by omega)
      exact tI hx hb hr hlk rfl hP hS ⟨(by omega), ⟨x52, x53, y54, hT⟩⟩ dX9_holds_42
  · refine lv_if_eq (tgt := 21) hx hb dX9_holds_5 (by decide) (fun _ => ?_) (fun c => absurd (by decide) c)
    refine lv_iconst (v := (-1)) hx hb dX9_holds_21 (by decide) ?_
    have ttl_m1 := tl_m1
    exact tI hx hb hr hlk rfl hP hS ⟨(by omega), ⟨m_askStrand, m_askTied, c_roundOf, hT⟩⟩ dX9_holds_22
set_option maxHeartbeats 4000000 in
set_option maxRecDepth 100000 in
theorem s_X9_spare_0 (l : Launch) (B0 : Nat) (adK adV : Nat → Nat) (D : va_G) (cy : Nat → ClassId) (ad : Nat → Nat) (fr0 : Nat → va_E) (c_text : Nat → Int32) (m_taped : Int32) (m_size : Int32) (m_faultKind : Int32) (m_faultPlace : Int32) (m_at : Int32) (m_end : Int32) (m_token : Int32) (m_number : Int32) (m_name : Int64) (c_points : Nat → Int32) (c_strands : Nat → Int32) (c_units : Nat → Int32) (c_told : Nat → Int32) (c_ruleFrom : Nat → Int32) (c_ruleTo : Nat → Int32) (c_code : Nat → Int32) (c_eWhat : Nat → Int32) (c_eSign : Nat → Int32) (m_bank : Int32) (m_rb : Int32) (m_codes : Int32) (m_within : Int32) (m_piled : Int32) (m_unitsInRule : Int32) (m_askStrand : Int32) (m_askTied : Int32) (m_thoughtClaim : Int32) (m_thoughtNeed : Int32) (m_thoughtAll : Int32) (c_roundOf : Nat → Int32) (m_acts : Int32) (m_undone : Int32) (m_laid : Int32) (m_firstMove : Int32) (m_seens : Int32) (m_time : Int32) (m_waysNow : Int32) (m_fitting : Int32) (f : Nat → va_E) (hT : TYm ad cy fr0 c_text m_taped m_size m_faultKind m_faultPlace m_at m_end m_token m_number m_name c_points c_strands c_units c_told c_ruleFrom c_ruleTo c_code c_eWhat c_eSign m_bank m_rb m_codes m_within m_piled m_unitsInRule m_askStrand m_askTied m_thoughtClaim m_thoughtNeed m_thoughtAll c_roundOf m_acts m_undone m_laid m_firstMove m_seens m_time m_waysNow m_fitting f) (hCV : CVp c_told c_ruleFrom c_ruleTo c_code m_bank) (sz : Nat) : TtI l yX9_spare wsX9_spare 7 159 [.ref (ad 148)] B0 adK adV D cy ad f sz (fun (r : Int32) (g : Nat → va_E) => (0 ≤ r.toInt ∧ r.toInt ≤ 4095) ∧ (∃ (m_askStrand' : Int32) (m_askTied' : Int32) (c_roundOf' : Nat → Int32), TYm ad cy fr0 c_text m_taped m_size m_faultKind m_faultPlace m_at m_end m_token m_number m_name c_points c_strands c_units c_told c_ruleFrom c_ruleTo c_code c_eWhat c_eSign m_bank m_rb m_codes m_within m_piled m_unitsInRule m_askStrand' m_askTied' m_thoughtClaim m_thoughtNeed m_thoughtAll c_roundOf' m_acts m_undone m_laid m_firstMove m_seens m_time m_waysNow m_fitting g ∧ (0 ≤ m_askTied'.toInt ∧ m_askTied'.toInt ≤ 4095))) := by
  refine TtI.of (cc := cX9_spare) (maxL := 4) (ty := .int) (own := RX9) (by decide) rfl (Nat.le_of_ble_eq_true rfl) rfl ?_
  intro p e s m below meth c A ls hx hb hr hml hts hown hlk hK hE hP hD hS hA hAB hl
  have hl : lv_has ls 4 [(0, .ref (ad 148))] := hl
  refine st0 (fun H locs hP hS => ?_) hP hS
  have j9 : ∀ (N : Nat) (f : Nat → va_E) (H : Heap) (locs : List Loc) (ls : Array Slot) (v9_l3 : Int32) (v9_l2 : Int32) (v9_l1 : Int32) (v9_p_m_askStrand : Int32) (v9_p_m_askTied : Int32) (v9_p_c_roundOf : Nat → Int32), (13 - v9_l3.toInt ≤ (N : Int)) → (0 ≤ v9_l3.toInt ∧ v9_l3.toInt ≤ 12) → (0 ≤ v9_l2.toInt ∧ v9_l2.toInt ≤ 4095) → (0 ≤ v9_l1.toInt ∧ v9_l1.toInt ≤ 4095) → (0 ≤ v9_p_m_askTied.toInt ∧ v9_p_m_askTied.toInt ≤ 4095) → (TYm ad cy fr0 c_text m_taped m_size m_faultKind m_faultPlace m_at m_end m_token m_number m_name c_points c_strands c_units c_told c_ruleFrom c_ruleTo c_code c_eWhat c_eSign m_bank m_rb m_codes m_within m_piled m_unitsInRule v9_p_m_askStrand v9_p_m_askTied m_thoughtClaim m_thoughtNeed m_thoughtAll v9_p_c_roundOf m_acts m_undone m_laid m_firstMove m_seens m_time m_waysNow m_fitting f) → (va_P D vwCl (wl ad f) H) → (va_D A (wl ad f)) → (va_S A s.heap H locs) → (lv_has ls 4 [(3, .int v9_l3), (2, .int v9_l2), (1, .int v9_l1), (0, .ref (ad 148))]) → W p l e (rmO 7 159 0 0) s m ([.ref (ad 148)] : List Value).toArray below meth c H locs 0 0 (MQ below (va_Qi (fun (r : Int32) (g : Nat → va_E) => (0 ≤ r.toInt ∧ r.toInt ≤ 4095) ∧ (∃ (m_askStrand' : Int32) (m_askTied' : Int32) (c_roundOf' : Nat → Int32), TYm ad cy fr0 c_text m_taped m_size m_faultKind m_faultPlace m_at m_end m_token m_number m_name c_points c_strands c_units c_told c_ruleFrom c_ruleTo c_code c_eWhat c_eSign m_bank m_rb m_codes m_within m_piled m_unitsInRule m_askStrand' m_askTied' m_thoughtClaim m_thoughtNeed m_thoughtAll c_roundOf' m_acts m_undone m_laid m_firstMove m_seens m_time m_waysNow m_fitting g ∧ (0 ≤ m_askTied'.toInt ∧ m_askTied'.toInt ≤ 4095))) (fun g t => PstT D ad g t) A) ([.ref (ad 148)] : List Value).toArray s 0 0 A) (F0 m 9 ls []) := by
    intro N
    induction N with
    | zero => intro f H locs ls v9_l3 v9_l2 v9_l1 v9_p_m_askStrand v9_p_m_askTied v9_p_c_roundOf hN hv9_l3 hv9_l2 hv9_l1 hv9_p_m_askTied hT hP hD hS hl; exact absurd hN (by omega)
    | succ N ih9 =>
      intro f H locs ls v9_l3 v9_l2 v9_l1 v9_p_m_askStrand v9_p_m_askTied v9_p_c_roundOf hN hv9_l3 hv9_l2 hv9_l1 hv9_p_m_askTied hT hP hD hS hl
      have j56 : ∀ (f : Nat → va_E) (H : Heap) (locs : List Loc) (ls : Array Slot) (v56_l2 : Int32) (v56_p_m_askStrand : Int32) (v56_p_m_askTied : Int32) (v56_p_c_roundOf : Nat → Int32), (0 ≤ v9_l3.toInt ∧ v9_l3.toInt ≤ 11) → (0 ≤ v56_l2.toInt ∧ v56_l2.toInt ≤ 4095) → (0 ≤ v9_l1.toInt ∧ v9_l1.toInt ≤ 4095) → (0 ≤ v56_p_m_askTied.toInt ∧ v56_p_m_askTied.toInt ≤ 4095) → (TYm ad cy fr0 c_text m_taped m_size m_faultKind m_faultPlace m_at m_end m_token m_number m_name c_points c_strands c_units c_told c_ruleFrom c_ruleTo c_code c_eWhat c_eSign m_bank m_rb m_codes m_within m_piled m_unitsInRule v56_p_m_askStrand v56_p_m_askTied m_thoughtClaim m_thoughtNeed m_thoughtAll v56_p_c_roundOf m_acts m_undone m_laid m_firstMove m_seens m_time m_waysNow m_fitting f) → (va_P D vwCl (wl ad f) H) → (va_D A (wl ad f)) → (va_S A s.heap H locs) → (lv_has ls 4 [(3, .int v9_l3), (2, .int v56_l2), (1, .int v9_l1), (0, .ref (ad 148))]) → W p l e (rmO 7 159 0 0) s m ([.ref (ad 148)] : List Value).toArray below meth c H locs 0 0 (MQ below (va_Qi (fun (r : Int32) (g : Nat → va_E) => (0 ≤ r.toInt ∧ r.toInt ≤ 4095) ∧ (∃ (m_askStrand' : Int32) (m_askTied' : Int32) (c_roundOf' : Nat → Int32), TYm ad cy fr0 c_text m_taped m_size m_faultKind m_faultPlace m_at m_end m_token m_number m_name c_points c_strands c_units c_told c_ruleFrom c_ruleTo c_code c_eWhat c_eSign m_bank m_rb m_codes m_within m_piled m_unitsInRule m_askStrand' m_askTied' m_thoughtClaim m_thoughtNeed m_thoughtAll c_roundOf' m_acts m_undone m_laid m_firstMove m_seens m_time m_waysNow m_fitting g ∧ (0 ≤ m_askTied'.toInt ∧ m_askTied'.toInt ≤ 4095))) (fun g t => PstT D ad g t) A) ([.ref (ad 148)] : List Value).toArray s 0 0 A) (F0 m 56 ls []) := by
        intro f H locs ls v56_l2 v56_p_m_askStrand v56_p_m_askTied v56_p_c_roundOf hv56_l3 hv56_l2 hv56_l1 hv56_p_m_askTied hT hP hD hS hl
        obtain ⟨x1, ex1⟩ : ∃ q : Int32, q = v9_l3 + Int32.ofInt (1) := ⟨_, rfl⟩
        refine lv_iinc (v := x1) (lv' := [(3, .int x1), (2, .int v56_l2), (1, .int v9_l1), (0, .ref (ad 148))]) hx hb dX9_spare_56 hl (k := 0) rfl ex1.symm (by decide) rfl (fun ls hl => ?_)
        have hx1 := r_inc ex1 (by decide) (by omega) (by omega)
        refine lv_goto (tgt := 9) hx hb dX9_spare_59 (by decide) ?_
        exact ih9 f H locs ls x1 v56_l2 v9_l1 v56_p_m_askStrand v56_p_m_askTied v56_p_c_roundOf (by omega) (by omega) (by omega) (by omega) (by omega) hT hP hD hS (lv_sub hl [0, 1, 2, 3] rfl)
      refine lv_iload_n hx hb dX9_spare_9 rfl (lv_at hl 0 rfl) ?_
      refine lv_aload_n hx hb dX9_spare_10 rfl (lv_at hl 3 rfl) ?_
      obtain ⟨e17, h2, h3, h4, h5, h6, h7, h8, h9, h10, h11, h12, h13, h14, h15, h16⟩ := (show okX9 ad m_taped m_size m_faultKind m_faultPlace m_at m_end m_token m_number m_name m_bank m_rb m_codes m_within m_piled m_unitsInRule v9_p_m_askStrand v9_p_m_askTied m_thoughtClaim m_thoughtNeed m_thoughtAll m_acts m_undone m_laid m_firstMove m_seens m_time m_waysNow m_fitting 148 (f 148) from hT.1 148 (by decide))
      refine tVI (As := []) (rest := [.int v9_l3]) (i := 148) ⟨hx, hb, hml, hown, hts⟩ hK hE hP hD hS hA hAB (s_X9_threads_0 l B0 adK adV D cy ad fr0 c_text m_taped m_size m_faultKind m_faultPlace m_at m_end m_token m_number m_name c_points c_strands c_units c_told c_ruleFrom c_ruleTo c_code c_eWhat c_eSign m_bank m_rb m_codes m_within m_piled m_unitsInRule v9_p_m_askStrand v9_p_m_askTied m_thoughtClaim m_thoughtNeed m_thoughtAll v9_p_c_roundOf m_acts m_undone m_laid m_firstMove m_seens m_time m_waysNow m_fitting f hT _) (cwV 0 hts gX9_spare_X9_threads rfl rfl rfl (by decide +kernel) ⟨Nat.le_of_ble_eq_true rfl, Nat.le_of_ble_eq_true rfl⟩) (by decide) 9 e17 rfl rfl hl.1 rfl (Nat.le_of_ble_eq_true rfl) dX9_spare_11 ⟨Nat.le_of_ble_eq_true rfl, Nat.le_of_ble_eq_true rfl⟩ (fun r g H locs hw hP hD hS => ?_)
      obtain ⟨hrs, rfl⟩ := hw
      obtain ⟨x18, rfl⟩ : ∃ q, q = r := ⟨_, rfl⟩
      have h19 := hrs
      refine lv_icmp_ge (tgt := 62) hx hb dX9_spare_14 (by decide) (fun c20 => ?_) (fun c20 => ?_)
      · have kc20 := c_le c20
        refine lv_iload_n hx hb dX9_spare_62 rfl (lv_at hl 1 rfl) ?_
        exact tI hx hb hr hlk rfl hP hS ⟨(by omega), ⟨v9_p_m_askStrand, v9_p_m_askTied, v9_p_c_roundOf, hT, by omega⟩⟩ dX9_spare_63
      · have kc20 := c_nle c20
        refine lv_aload_n hx hb dX9_spare_17 rfl (lv_at hl 3 rfl) ?_
        refine va_get (D := D) (cl := vwCl) (ci := 9) (v := .ref (ad 169)) (C := RX9) (T := TX9) (N := 64) hx hb hts in_X9_spare_X9 hown hK hP 148 (wl_at (by decide) e17) rfl 37 (by decide) (hts (.fieldLink RX9 76 "EightReasonsModel" "all" "[I") (List.mem_of_getElem? (i := 1) rfl)) (fun _ h9 => h9) rfl dX9_spare_18 ?_
        refine lv_iconst (v := 1) hx hb dX9_spare_21 (by decide) ?_
        obtain ⟨g23, e21, h22⟩ := (show okIr cy 16 (0) (4095) 16 1 (f 169) from hT.1 169 (by decide))
        have ttl_1 := tl_1
        refine va_iald hx hb hK hP 169 0 (wl_at (by decide) e21) rfl (vin (by decide)) dX9_spare_22 ?_
        refine lv_topi (fun x24 ex24 => ?_)
        have hx24 := r_el (h22 _ (by decide)) ex24
        refine lv_iload_n hx hb dX9_spare_23 rfl (lv_at hl 0 rfl) ?_
        refine tSI (As := [.int x24, .int v9_l3]) (rest := []) ⟨hx, hb, hml, hown, hts⟩ hK hE hP hD hS hA hAB (s_X9_bit_0 l B0 adK adV D cy ad f x24 v9_l3 (by omega) _) (va_cwS 2 hts gX9_spare_X9_bit rfl rfl rfl (by decide +kernel) ⟨Nat.le_of_ble_eq_true rfl, Nat.le_of_ble_eq_true rfl⟩) rfl hl.1 rfl (Nat.le_of_ble_eq_true rfl) dX9_spare_24 ⟨Nat.le_of_ble_eq_true rfl, Nat.le_of_ble_eq_true rfl⟩ (fun r g H locs hw hP hD hS => ?_)
        obtain ⟨hrs, rfl⟩ := hw
        obtain ⟨x25, rfl⟩ : ∃ q, q = r := ⟨_, rfl⟩
        rcases hrs with ⟨rfl, h26⟩ | ⟨rfl, h27⟩
        · refine lv_if_eq (tgt := 56) hx hb dX9_spare_27 (by decide) (fun c => absurd c (by decide)) (fun _ => ?_)
          refine lv_aload_n hx hb dX9_spare_30 rfl (lv_at hl 3 rfl) ?_
          refine lv_aload_n hx hb dX9_spare_31 rfl (lv_at hl 3 rfl) ?_
          refine va_get (D := D) (cl := vwCl) (ci := 9) (v := .ref (ad 169)) (C := RX9) (T := TX9) (N := 64) hx hb hts in_X9_spare_X9 hown hK hP 148 (wl_at (by decide) e17) rfl 37 (by decide) (hts (.fieldLink RX9 76 "EightReasonsModel" "all" "[I") (List.mem_of_getElem? (i := 1) rfl)) (fun _ h9 => h9) rfl dX9_spare_32 ?_
          refine lv_iconst (v := 1) hx hb dX9_spare_35 (by decide) ?_
          refine va_iald hx hb hK hP 169 0 (wl_at (by decide) e21) rfl (vin (by decide)) dX9_spare_36 ?_
          refine lv_topi (fun x28 ex28 => ?_)
          have hx28 := r_el (h22 _ (by decide)) ex28
          refine lv_iconst (v := 1) hx hb dX9_spare_37 (by decide) ?_
          refine lv_iload_n hx hb dX9_spare_38 rfl (lv_at hl 0 rfl) ?_
          refine lv_ishl hx hb dX9_spare_39 ?_
          refine lv_topi (fun x29 ex29 => ?_)
          have hx29 := r_shl (K := 11) (M := 2048) ex29 (by decide) (by decide) (by omega) (by omega)
          refine lv_iconst (v := (-1)) hx hb dX9_spare_40 (by decide) ?_
          refine lv_ixor hx hb dX9_spare_41 ?_
          refine lv_topi (fun x30 ex30 => ?_)
          refine lv_iand hx hb dX9_spare_42 ?_
          refine lv_topi (fun x31 ex31 => ?_)
          have hx31 := r_andl ex31 (by omega)
          refine tVI (As := [.int x31]) (rest := []) (i := 148) ⟨hx, hb, hml, hown, hts⟩ hK hE hP hD hS hA hAB (s_X9_standWith_0 l B0 adK adV D cy ad fr0 c_text m_taped m_size m_faultKind m_faultPlace m_at m_end m_token m_number m_name c_points c_strands c_units c_told c_ruleFrom c_ruleTo c_code c_eWhat c_eSign m_bank m_rb m_codes m_within m_piled m_unitsInRule v9_p_m_askStrand v9_p_m_askTied m_thoughtClaim m_thoughtNeed m_thoughtAll v9_p_c_roundOf m_acts m_undone m_laid m_firstMove m_seens m_time m_waysNow m_fitting f hT x31 (by omega) hCV _) (cwV 1 hts gX9_spare_X9_standWith rfl rfl rfl (by decide +kernel) ⟨Nat.le_of_ble_eq_true rfl, Nat.le_of_ble_eq_true rfl⟩) (by decide) 9 e17 rfl rfl hl.1 rfl (Nat.le_of_ble_eq_true rfl) dX9_spare_43 ⟨Nat.le_of_ble_eq_true rfl, Nat.le_of_ble_eq_true rfl⟩ (fun r f H locs hw hP hD hS => ?_)
          obtain ⟨hrs, x32, x33, y34, hT, h35⟩ := hw
          obtain ⟨x36, rfl⟩ : ∃ q, q = r := ⟨_, rfl⟩
          have h37 := hrs
          refine lv_iload_n hx hb dX9_spare_46 rfl (lv_at hl 2 rfl) ?_
          refine lv_icmp_ne (tgt := 56) hx hb dX9_spare_47 (by decide) (fun c38 => ?_) (fun c38 => ?_)
          · have kc38 := c_ne c38
            exact j56 f H locs ls v9_l2 x32 x33 y34 (by omega) (by omega) (by omega) (by omega) hT hP hD hS (lv_sub hl [0, 1, 2, 3] rfl)
          · have kc38 := c_eq c38
            refine lv_iload_n hx hb dX9_spare_50 rfl (lv_at hl 1 rfl) ?_
            refine lv_iconst (v := 1) hx hb dX9_spare_51 (by decide) ?_
            refine lv_iload_n hx hb dX9_spare_52 rfl (lv_at hl 0 rfl) ?_
            refine lv_ishl hx hb dX9_spare_53 ?_
            refine lv_topi (fun x39 ex39 => ?_)
            have hx39 := r_shl (K := 11) (M := 2048) ex39 (by decide) (by decide) (by omega) (by omega)
            refine lv_ior hx hb dX9_spare_54 ?_
            refine lv_topi (fun x40 ex40 => ?_)
            have hx40 := r_or (k := 12) (K := 4096) ex40 (by decide) (by decide) (by omega) (by omega) (by omega) (by omega)
            refine lv_istore_n (lv' := [(2, .int x40), (3, .int v9_l3), (1, .int v9_l1), (0, .ref (ad 148))]) hx hb dX9_spare_55 rfl hl (by decide) rfl (fun ls hl => ?_)
            exact j56 f H locs ls x40 x32 x33 y34 (by omega) (by omega) (by omega) (by omega) hT hP hD hS (lv_sub hl [1, 0, 2, 3] rfl)
        · refine lv_if_eq (tgt := 56) hx hb dX9_spare_27 (by decide) (fun _ => ?_) (fun c => absurd (by decide) c)
          exact j56 f H locs ls v9_l2 v9_p_m_askStrand v9_p_m_askTied v9_p_c_roundOf (by omega) (by omega) (by omega) (by omega) hT hP hD hS (lv_sub hl [0, 1, 2, 3] rfl)
  refine lv_aload_n hx hb dX9_spare_0 rfl (lv_at hl 0 rfl) ?_
  obtain ⟨e56, h41, h42, h43, h44, h45, h46, h47, h48, h49, h50, h51, h52, h53, h54, h55⟩ := (show okX9 ad m_taped m_size m_faultKind m_faultPlace m_at m_end m_token m_number m_name m_bank m_rb m_codes m_within m_piled m_unitsInRule m_askStrand m_askTied m_thoughtClaim m_thoughtNeed m_thoughtAll m_acts m_undone m_laid m_firstMove m_seens m_time m_waysNow m_fitting 148 (f 148) from hT.1 148 (by decide))
  refine tVI (As := []) (rest := []) (i := 148) ⟨hx, hb, hml, hown, hts⟩ hK hE hP hD hS hA hAB (s_X9_standNow_0 l B0 adK adV D cy ad fr0 c_text m_taped m_size m_faultKind m_faultPlace m_at m_end m_token m_number m_name c_points c_strands c_units c_told c_ruleFrom c_ruleTo c_code c_eWhat c_eSign m_bank m_rb m_codes m_within m_piled m_unitsInRule m_askStrand m_askTied m_thoughtClaim m_thoughtNeed m_thoughtAll c_roundOf m_acts m_undone m_laid m_firstMove m_seens m_time m_waysNow m_fitting f hT hCV _) (cwV 0 hts gX9_spare_X9_standNow rfl rfl rfl (by decide +kernel) ⟨Nat.le_of_ble_eq_true rfl, Nat.le_of_ble_eq_true rfl⟩) (by decide) 9 e56 rfl rfl hl.1 rfl (Nat.le_of_ble_eq_true rfl) dX9_spare_1 ⟨Nat.le_of_ble_eq_true rfl, Nat.le_of_ble_eq_true rfl⟩ (fun r f H locs hw hP hD hS => ?_)
  obtain ⟨hrs, x57, x58, y59, hT, h60⟩ := hw
  obtain ⟨x61, rfl⟩ : ∃ q, q = r := ⟨_, rfl⟩
  have h62 := hrs
  refine lv_istore_n (lv' := [(1, .int x61), (0, .ref (ad 148))]) hx hb dX9_spare_4 rfl hl (by decide) rfl (fun ls hl => ?_)
  refine lv_iconst (v := 0) hx hb dX9_spare_5 (by decide) ?_
  refine lv_istore_n (lv' := [(2, .int 0), (1, .int x61), (0, .ref (ad 148))]) hx hb dX9_spare_6 rfl hl (by decide) rfl (fun ls hl => ?_)
  refine lv_iconst (v := 0) hx hb dX9_spare_7 (by decide) ?_
  refine lv_istore_n (lv' := [(3, .int 0), (2, .int 0), (1, .int x61), (0, .ref (ad 148))]) hx hb dX9_spare_8 rfl hl (by decide) rfl (fun ls hl => ?_)
  have ttl_0 := tl_0
  exact j9 (Int.toNat (13 - (0 : Int32).toInt)) f H locs ls (0 : Int32) (0 : Int32) x61 x57 x58 y59 (by omega) (by omega) (by omega) (by omega) (by omega) hT hP hD hS (lv_sub hl [0, 1, 2, 3] rfl)
set_option maxHeartbeats 4000000 in
set_option maxRecDepth 100000 in
theorem s_X9_firmest_0 (l : Launch) (B0 : Nat) (adK adV : Nat → Nat) (D : va_G) (cy : Nat → ClassId) (ad : Nat → Nat) (fr0 : Nat → va_E) (c_text : Nat → Int32) (m_taped : Int32) (m_size : Int32) (m_faultKind : Int32) (m_faultPlace : Int32) (m_at : Int32) (m_end : Int32) (m_token : Int32) (m_number : Int32) (m_name : Int64) (c_points : Nat → Int32) (c_strands : Nat → Int32) (c_units : Nat → Int32) (c_told : Nat → Int32) (c_ruleFrom : Nat → Int32) (c_ruleTo : Nat → Int32) (c_code : Nat → Int32) (c_eWhat : Nat → Int32) (c_eSign : Nat → Int32) (m_bank : Int32) (m_rb : Int32) (m_codes : Int32) (m_within : Int32) (m_piled : Int32) (m_unitsInRule : Int32) (m_askStrand : Int32) (m_askTied : Int32) (m_thoughtClaim : Int32) (m_thoughtNeed : Int32) (m_thoughtAll : Int32) (c_roundOf : Nat → Int32) (m_acts : Int32) (m_undone : Int32) (m_laid : Int32) (m_firstMove : Int32) (m_seens : Int32) (m_time : Int32) (m_waysNow : Int32) (m_fitting : Int32) (f : Nat → va_E) (hT : TYm ad cy fr0 c_text m_taped m_size m_faultKind m_faultPlace m_at m_end m_token m_number m_name c_points c_strands c_units c_told c_ruleFrom c_ruleTo c_code c_eWhat c_eSign m_bank m_rb m_codes m_within m_piled m_unitsInRule m_askStrand m_askTied m_thoughtClaim m_thoughtNeed m_thoughtAll c_roundOf m_acts m_undone m_laid m_firstMove m_seens m_time m_waysNow m_fitting f) (p1 : Int32) (hCV : CVp c_told c_ruleFrom c_ruleTo c_code m_bank) (sz : Nat) : TtI l yX9_firmest wsX9_firmest 7 158 [.ref (ad 148), .int p1] B0 adK adV D cy ad f sz (fun (r : Int32) (g : Nat → va_E) => (-1 ≤ r.toInt) ∧ (∃ (m_askStrand' : Int32) (m_askTied' : Int32) (c_roundOf' : Nat → Int32), TYm ad cy fr0 c_text m_taped m_size m_faultKind m_faultPlace m_at m_end m_token m_number m_name c_points c_strands c_units c_told c_ruleFrom c_ruleTo c_code c_eWhat c_eSign m_bank m_rb m_codes m_within m_piled m_unitsInRule m_askStrand' m_askTied' m_thoughtClaim m_thoughtNeed m_thoughtAll c_roundOf' m_acts m_undone m_laid m_firstMove m_seens m_time m_waysNow m_fitting g)) := by
  refine TtI.of (cc := cX9_firmest) (maxL := 7) (ty := .int) (own := RX9) (by decide) rfl (Nat.le_of_ble_eq_true rfl) rfl ?_
  intro p e s m below meth c A ls hx hb hr hml hts hown hlk hK hE hP hD hS hA hAB hl
  have hl : lv_has ls 7 [(0, .ref (ad 148)), (1, .int p1)] := hl
  refine st0 (fun H locs hP hS => ?_) hP hS
  have j24 : ∀ (N : Nat) (f : Nat → va_E) (H : Heap) (locs : List Loc) (ls : Array Slot) (v24_l5 : Int32) (v24_l4 : Int32) (v24_l3 : Int32) (v24_l2 : Int32) (v24_p_m_askStrand : Int32) (v24_p_m_askTied : Int32) (v24_p_c_roundOf : Nat → Int32), (11 - v24_l5.toInt ≤ (N : Int)) → (0 ≤ v24_l5.toInt ∧ v24_l5.toInt ≤ 10) → (-1 ≤ v24_l4.toInt) → (-1 ≤ v24_l3.toInt ∧ v24_l3.toInt ≤ 9) → (0 ≤ v24_l2.toInt ∧ v24_l2.toInt ≤ 4095) → (0 ≤ p1.toInt ∧ p1.toInt ≤ 1) → (0 ≤ v24_p_m_askTied.toInt ∧ v24_p_m_askTied.toInt ≤ 4095) → (TYm ad cy fr0 c_text m_taped m_size m_faultKind m_faultPlace m_at m_end m_token m_number m_name c_points c_strands c_units c_told c_ruleFrom c_ruleTo c_code c_eWhat c_eSign m_bank m_rb m_codes m_within m_piled m_unitsInRule v24_p_m_askStrand v24_p_m_askTied m_thoughtClaim m_thoughtNeed m_thoughtAll v24_p_c_roundOf m_acts m_undone m_laid m_firstMove m_seens m_time m_waysNow m_fitting f) → (va_P D vwCl (wl ad f) H) → (va_D A (wl ad f)) → (va_S A s.heap H locs) → (lv_has ls 7 [(5, .int v24_l5), (4, .int v24_l4), (3, .int v24_l3), (2, .int v24_l2), (0, .ref (ad 148)), (1, .int p1)]) → W p l e (rmO 7 158 0 0) s m ([.ref (ad 148), .int p1] : List Value).toArray below meth c H locs 0 0 (MQ below (va_Qi (fun (r : Int32) (g : Nat → va_E) => (-1 ≤ r.toInt) ∧ (∃ (m_askStrand' : Int32) (m_askTied' : Int32) (c_roundOf' : Nat → Int32), TYm ad cy fr0 c_text m_taped m_size m_faultKind m_faultPlace m_at m_end m_token m_number m_name c_points c_strands c_units c_told c_ruleFrom c_ruleTo c_code c_eWhat c_eSign m_bank m_rb m_codes m_within m_piled m_unitsInRule m_askStrand' m_askTied' m_thoughtClaim m_thoughtNeed m_thoughtAll c_roundOf' m_acts m_undone m_laid m_firstMove m_seens m_time m_waysNow m_fitting g)) (fun g t => PstT D ad g t) A) ([.ref (ad 148), .int p1] : List Value).toArray s 0 0 A) (F0 m 24 ls []) := by
    intro N
    induction N with
    | zero => intro f H locs ls v24_l5 v24_l4 v24_l3 v24_l2 v24_p_m_askStrand v24_p_m_askTied v24_p_c_roundOf hN hv24_l5 hv24_l4 hv24_l3 hv24_l2 hv24_l1 hv24_p_m_askTied hT hP hD hS hl; exact absurd hN (by omega)
    | succ N ih24 =>
      intro f H locs ls v24_l5 v24_l4 v24_l3 v24_l2 v24_p_m_askStrand v24_p_m_askTied v24_p_c_roundOf hN hv24_l5 hv24_l4 hv24_l3 hv24_l2 hv24_l1 hv24_p_m_askTied hT hP hD hS hl
      have j88 : ∀ (f : Nat → va_E) (H : Heap) (locs : List Loc) (ls : Array Slot) (v88_l4 : Int32) (v88_l3 : Int32) (v88_l6 : Int32), (-1 ≤ v88_l4.toInt) → (-1 ≤ v88_l3.toInt ∧ v88_l3.toInt ≤ 9) → (0 ≤ v24_l5.toInt ∧ v24_l5.toInt ≤ 9) → (0 ≤ v24_l2.toInt ∧ v24_l2.toInt ≤ 4095) → (0 ≤ p1.toInt ∧ p1.toInt ≤ 1) → (0 ≤ v24_p_m_askTied.toInt ∧ v24_p_m_askTied.toInt ≤ 4095) → (TYm ad cy fr0 c_text m_taped m_size m_faultKind m_faultPlace m_at m_end m_token m_number m_name c_points c_strands c_units c_told c_ruleFrom c_ruleTo c_code c_eWhat c_eSign m_bank m_rb m_codes m_within m_piled m_unitsInRule v24_p_m_askStrand v24_p_m_askTied m_thoughtClaim m_thoughtNeed m_thoughtAll v24_p_c_roundOf m_acts m_undone m_laid m_firstMove m_seens m_time m_waysNow m_fitting f) → (va_P D vwCl (wl ad f) H) → (va_D A (wl ad f)) → (va_S A s.heap H locs) → (lv_has ls 7 [(4, .int v88_l4), (3, .int v88_l3), (6, .int v88_l6), (5, .int v24_l5), (2, .int v24_l2), (0, .ref (ad 148)), (1, .int p1)]) → W p l e (rmO 7 158 0 0) s m ([.ref (ad 148), .int p1] : List Value).toArray below meth c H locs 0 0 (MQ below (va_Qi (fun (r : Int32) (g : Nat → va_E) => (-1 ≤ r.toInt) ∧ (∃ (m_askStrand' : Int32) (m_askTied' : Int32) (c_roundOf' : Nat → Int32), TYm ad cy fr0 c_text m_taped m_size m_faultKind m_faultPlace m_at m_end m_token m_number m_name c_points c_strands c_units c_told c_ruleFrom c_ruleTo c_code c_eWhat c_eSign m_bank m_rb m_codes m_within m_piled m_unitsInRule m_askStrand' m_askTied' m_thoughtClaim m_thoughtNeed m_thoughtAll c_roundOf' m_acts m_undone m_laid m_firstMove m_seens m_time m_waysNow m_fitting g)) (fun g t => PstT D ad g t) A) ([.ref (ad 148), .int p1] : List Value).toArray s 0 0 A) (F0 m 88 ls []) := by
        intro f H locs ls v88_l4 v88_l3 v88_l6 hv88_l4 hv88_l3 hv88_l5 hv88_l2 hv88_l1 hv88_p_m_askTied hT hP hD hS hl
        obtain ⟨x1, ex1⟩ : ∃ q : Int32, q = v24_l5 + Int32.ofInt (1) := ⟨_, rfl⟩
        refine lv_iinc (v := x1) (lv' := [(5, .int x1), (4, .int v88_l4), (3, .int v88_l3), (6, .int v88_l6), (2, .int v24_l2), (0, .ref (ad 148)), (1, .int p1)]) hx hb dX9_firmest_88 hl (k := 3) rfl ex1.symm (by decide) rfl (fun ls hl => ?_)
        have hx1 := r_inc ex1 (by decide) (by omega) (by omega)
        refine lv_goto (tgt := 24) hx hb dX9_firmest_91 (by decide) ?_
        exact ih24 f H locs ls x1 v88_l4 v88_l3 v24_l2 v24_p_m_askStrand v24_p_m_askTied v24_p_c_roundOf (by omega) (by omega) (by omega) (by omega) (by omega) (by omega) (by omega) hT hP hD hS (lv_sub hl [0, 1, 2, 4, 5, 6] rfl)
      have j69 : ∀ (f : Nat → va_E) (H : Heap) (locs : List Loc) (ls : Array Slot) (v69_s0 : Int32), (0 ≤ v24_l5.toInt ∧ v24_l5.toInt ≤ 9) → (-1 ≤ v24_l4.toInt) → (-1 ≤ v24_l3.toInt ∧ v24_l3.toInt ≤ 9) → (0 ≤ v24_l2.toInt ∧ v24_l2.toInt ≤ 4095) → (0 ≤ p1.toInt ∧ p1.toInt ≤ 1) → (0 ≤ v24_p_m_askTied.toInt ∧ v24_p_m_askTied.toInt ≤ 4095) → (TYm ad cy fr0 c_text m_taped m_size m_faultKind m_faultPlace m_at m_end m_token m_number m_name c_points c_strands c_units c_told c_ruleFrom c_ruleTo c_code c_eWhat c_eSign m_bank m_rb m_codes m_within m_piled m_unitsInRule v24_p_m_askStrand v24_p_m_askTied m_thoughtClaim m_thoughtNeed m_thoughtAll v24_p_c_roundOf m_acts m_undone m_laid m_firstMove m_seens m_time m_waysNow m_fitting f) → (va_P D vwCl (wl ad f) H) → (va_D A (wl ad f)) → (va_S A s.heap H locs) → (lv_has ls 7 [(5, .int v24_l5), (4, .int v24_l4), (3, .int v24_l3), (2, .int v24_l2), (0, .ref (ad 148)), (1, .int p1)]) → W p l e (rmO 7 158 0 0) s m ([.ref (ad 148), .int p1] : List Value).toArray below meth c H locs 0 0 (MQ below (va_Qi (fun (r : Int32) (g : Nat → va_E) => (-1 ≤ r.toInt) ∧ (∃ (m_askStrand' : Int32) (m_askTied' : Int32) (c_roundOf' : Nat → Int32), TYm ad cy fr0 c_text m_taped m_size m_faultKind m_faultPlace m_at m_end m_token m_number m_name c_points c_strands c_units c_told c_ruleFrom c_ruleTo c_code c_eWhat c_eSign m_bank m_rb m_codes m_within m_piled m_unitsInRule m_askStrand' m_askTied' m_thoughtClaim m_thoughtNeed m_thoughtAll c_roundOf' m_acts m_undone m_laid m_firstMove m_seens m_time m_waysNow m_fitting g)) (fun g t => PstT D ad g t) A) ([.ref (ad 148), .int p1] : List Value).toArray s 0 0 A) (F0 m 69 ls [.int v69_s0]) := by
        intro f H locs ls v69_s0 hv69_l5 hv69_l4 hv69_l3 hv69_l2 hv69_l1 hv69_p_m_askTied hT hP hD hS hl
        refine lv_istore (lv' := [(6, .int v69_s0), (5, .int v24_l5), (4, .int v24_l4), (3, .int v24_l3), (2, .int v24_l2), (0, .ref (ad 148)), (1, .int p1)]) hx hb dX9_firmest_69 hl (by decide) rfl (fun ls hl => ?_)
        refine lv_iload hx hb dX9_firmest_71 (lv_at hl 0 rfl) ?_
        refine lv_iload hx hb dX9_firmest_73 (lv_at hl 2 rfl) ?_
        refine lv_icmp_gt (tgt := 81) hx hb dX9_firmest_75 (by decide) (fun c2 => ?_) (fun c2 => ?_)
        · have kc2 := c_lt c2
          refine lv_iload hx hb dX9_firmest_81 (lv_at hl 1 rfl) ?_
          refine lv_istore_n (lv' := [(3, .int v24_l5), (6, .int v69_s0), (5, .int v24_l5), (4, .int v24_l4), (2, .int v24_l2), (0, .ref (ad 148)), (1, .int p1)]) hx hb dX9_firmest_83 rfl hl (by decide) rfl (fun ls hl => ?_)
          refine lv_iload hx hb dX9_firmest_84 (lv_at hl 1 rfl) ?_
          refine lv_istore (lv' := [(4, .int v69_s0), (3, .int v24_l5), (6, .int v69_s0), (5, .int v24_l5), (2, .int v24_l2), (0, .ref (ad 148)), (1, .int p1)]) hx hb dX9_firmest_86 hl (by decide) rfl (fun ls hl => ?_)
          exact j88 f H locs ls v69_s0 v24_l5 v69_s0 (by omega) (by omega) (by omega) (by omega) (by omega) (by omega) hT hP hD hS (lv_sub hl [0, 1, 2, 3, 4, 5, 6] rfl)
        · have kc2 := c_nlt c2
          refine lv_goto (tgt := 88) hx hb dX9_firmest_78 (by decide) ?_
          exact j88 f H locs ls v24_l4 v24_l3 v69_s0 (by omega) (by omega) (by omega) (by omega) (by omega) (by omega) hT hP hD hS (lv_sub hl [2, 3, 0, 1, 4, 5, 6] rfl)
      have j68 : ∀ (f : Nat → va_E) (H : Heap) (locs : List Loc) (ls : Array Slot), (0 ≤ v24_l5.toInt ∧ v24_l5.toInt ≤ 9) → (-1 ≤ v24_l4.toInt) → (-1 ≤ v24_l3.toInt ∧ v24_l3.toInt ≤ 9) → (0 ≤ v24_l2.toInt ∧ v24_l2.toInt ≤ 4095) → (0 ≤ p1.toInt ∧ p1.toInt ≤ 1) → (0 ≤ v24_p_m_askTied.toInt ∧ v24_p_m_askTied.toInt ≤ 4095) → (TYm ad cy fr0 c_text m_taped m_size m_faultKind m_faultPlace m_at m_end m_token m_number m_name c_points c_strands c_units c_told c_ruleFrom c_ruleTo c_code c_eWhat c_eSign m_bank m_rb m_codes m_within m_piled m_unitsInRule v24_p_m_askStrand v24_p_m_askTied m_thoughtClaim m_thoughtNeed m_thoughtAll v24_p_c_roundOf m_acts m_undone m_laid m_firstMove m_seens m_time m_waysNow m_fitting f) → (va_P D vwCl (wl ad f) H) → (va_D A (wl ad f)) → (va_S A s.heap H locs) → (lv_has ls 7 [(5, .int v24_l5), (4, .int v24_l4), (3, .int v24_l3), (2, .int v24_l2), (0, .ref (ad 148)), (1, .int p1)]) → W p l e (rmO 7 158 0 0) s m ([.ref (ad 148), .int p1] : List Value).toArray below meth c H locs 0 0 (MQ below (va_Qi (fun (r : Int32) (g : Nat → va_E) => (-1 ≤ r.toInt) ∧ (∃ (m_askStrand' : Int32) (m_askTied' : Int32) (c_roundOf' : Nat → Int32), TYm ad cy fr0 c_text m_taped m_size m_faultKind m_faultPlace m_at m_end m_token m_number m_name c_points c_strands c_units c_told c_ruleFrom c_ruleTo c_code c_eWhat c_eSign m_bank m_rb m_codes m_within m_piled m_unitsInRule m_askStrand' m_askTied' m_thoughtClaim m_thoughtNeed m_thoughtAll c_roundOf' m_acts m_undone m_laid m_firstMove m_seens m_time m_waysNow m_fitting g)) (fun g t => PstT D ad g t) A) ([.ref (ad 148), .int p1] : List Value).toArray s 0 0 A) (F0 m 68 ls []) := by
        intro f H locs ls hv68_l5 hv68_l4 hv68_l3 hv68_l2 hv68_l1 hv68_p_m_askTied hT hP hD hS hl
        refine lv_iconst (v := (-1)) hx hb dX9_firmest_68 (by decide) ?_
        have ttl_m1 := tl_m1
        exact j69 f H locs ls ((-1) : Int32) (by omega) (by omega) (by omega) (by omega) (by omega) (by omega) hT hP hD hS (lv_sub hl [0, 1, 2, 3, 4, 5] rfl)
      refine lv_iload hx hb dX9_firmest_24 (lv_at hl 0 rfl) ?_
      refine lv_aload_n hx hb dX9_firmest_26 rfl (lv_at hl 4 rfl) ?_
      obtain ⟨e18, h3, h4, h5, h6, h7, h8, h9, h10, h11, h12, h13, h14, h15, h16, h17⟩ := (show okX9 ad m_taped m_size m_faultKind m_faultPlace m_at m_end m_token m_number m_name m_bank m_rb m_codes m_within m_piled m_unitsInRule v24_p_m_askStrand v24_p_m_askTied m_thoughtClaim m_thoughtNeed m_thoughtAll m_acts m_undone m_laid m_firstMove m_seens m_time m_waysNow m_fitting 148 (f 148) from hT.1 148 (by decide))
      refine tVI (As := []) (rest := [.int v24_l5]) (i := 148) ⟨hx, hb, hml, hown, hts⟩ hK hE hP hD hS hA hAB (s_X9_many_0 l B0 adK adV D cy ad fr0 c_text m_taped m_size m_faultKind m_faultPlace m_at m_end m_token m_number m_name c_points c_strands c_units c_told c_ruleFrom c_ruleTo c_code c_eWhat c_eSign m_bank m_rb m_codes m_within m_piled m_unitsInRule v24_p_m_askStrand v24_p_m_askTied m_thoughtClaim m_thoughtNeed m_thoughtAll v24_p_c_roundOf m_acts m_undone m_laid m_firstMove m_seens m_time m_waysNow m_fitting f hT _) (cwV 0 hts gX9_firmest_X9_many rfl rfl rfl (by decide +kernel) ⟨Nat.le_of_ble_eq_true rfl, Nat.le_of_ble_eq_true rfl⟩) (by decide) 9 e18 rfl rfl hl.1 rfl (Nat.le_of_ble_eq_true rfl) dX9_firmest_27 ⟨Nat.le_of_ble_eq_true rfl, Nat.le_of_ble_eq_true rfl⟩ (fun r g H locs hw hP hD hS => ?_)
      obtain ⟨hrs, rfl⟩ := hw
      obtain ⟨x19, rfl⟩ : ∃ q, q = r := ⟨_, rfl⟩
      have h20 := hrs
      refine lv_icmp_ge (tgt := 94) hx hb dX9_firmest_30 (by decide) (fun c21 => ?_) (fun c21 => ?_)
      · have kc21 := c_le c21
        refine lv_iload_n hx hb dX9_firmest_94 rfl (lv_at hl 5 rfl) ?_
        have ttl_0 := tl_0
        refine lv_if_ne (tgt := 102) hx hb dX9_firmest_95 (by decide) (fun c22 => ?_) (fun c22 => ?_)
        · have kc22 := c_ne c22
          refine lv_iload hx hb dX9_firmest_102 (lv_at hl 1 rfl) ?_
          exact tI hx hb hr hlk rfl hP hS ⟨(by omega), ⟨v24_p_m_askStrand, v24_p_m_askTied, v24_p_c_roundOf, hT⟩⟩ dX9_firmest_104
        · have kc22 := c_eq c22
          refine lv_iload_n hx hb dX9_firmest_98 rfl (lv_at hl 2 rfl) ?_
          refine lv_goto (tgt := 104) hx hb dX9_firmest_99 (by decide) ?_
          exact tI hx hb hr hlk rfl hP hS ⟨(by omega), ⟨v24_p_m_askStrand, v24_p_m_askTied, v24_p_c_roundOf, hT⟩⟩ dX9_firmest_104
      · have kc21 := c_nle c21
        refine lv_aload_n hx hb dX9_firmest_33 rfl (lv_at hl 4 rfl) ?_
        refine lv_iload hx hb dX9_firmest_34 (lv_at hl 0 rfl) ?_
        refine tVI (As := [.int v24_l5]) (rest := []) (i := 148) ⟨hx, hb, hml, hown, hts⟩ hK hE hP hD hS hA hAB (s_X9_isClaim_0 l B0 adK adV D cy ad fr0 c_text m_taped m_size m_faultKind m_faultPlace m_at m_end m_token m_number m_name c_points c_strands c_units c_told c_ruleFrom c_ruleTo c_code c_eWhat c_eSign m_bank m_rb m_codes m_within m_piled m_unitsInRule v24_p_m_askStrand v24_p_m_askTied m_thoughtClaim m_thoughtNeed m_thoughtAll v24_p_c_roundOf m_acts m_undone m_laid m_firstMove m_seens m_time m_waysNow m_fitting f hT v24_l5 _) (cwV 1 hts gX9_firmest_X9_isClaim rfl rfl rfl (by decide +kernel) ⟨Nat.le_of_ble_eq_true rfl, Nat.le_of_ble_eq_true rfl⟩) (by decide) 9 e18 rfl rfl hl.1 rfl (Nat.le_of_ble_eq_true rfl) dX9_firmest_36 ⟨Nat.le_of_ble_eq_true rfl, Nat.le_of_ble_eq_true rfl⟩ (fun r g H locs hw hP hD hS => ?_)
        obtain ⟨hrs, rfl⟩ := hw
        obtain ⟨x23, rfl⟩ : ∃ q, q = r := ⟨_, rfl⟩
        rcases hrs with ⟨rfl, h24, h25⟩ | rfl
        · refine lv_if_eq (tgt := 68) hx hb dX9_firmest_39 (by decide) (fun c => absurd c (by decide)) (fun _ => ?_)
          refine lv_iload_n hx hb dX9_firmest_42 rfl (lv_at hl 3 rfl) ?_
          refine lv_iload hx hb dX9_firmest_43 (lv_at hl 0 rfl) ?_
          refine tSI (As := [.int v24_l2, .int v24_l5]) (rest := []) ⟨hx, hb, hml, hown, hts⟩ hK hE hP hD hS hA hAB (s_X9_bit_0 l B0 adK adV D cy ad f v24_l2 v24_l5 (by omega) _) (va_cwS 2 hts gX9_firmest_X9_bit rfl rfl rfl (by decide +kernel) ⟨Nat.le_of_ble_eq_true rfl, Nat.le_of_ble_eq_true rfl⟩) rfl hl.1 rfl (Nat.le_of_ble_eq_true rfl) dX9_firmest_45 ⟨Nat.le_of_ble_eq_true rfl, Nat.le_of_ble_eq_true rfl⟩ (fun r g H locs hw hP hD hS => ?_)
          obtain ⟨hrs, rfl⟩ := hw
          obtain ⟨x26, rfl⟩ : ∃ q, q = r := ⟨_, rfl⟩
          rcases hrs with ⟨rfl, h27⟩ | ⟨rfl, h28⟩
          · refine lv_if_eq (tgt := 68) hx hb dX9_firmest_48 (by decide) (fun c => absurd c (by decide)) (fun _ => ?_)
            refine lv_aload_n hx hb dX9_firmest_51 rfl (lv_at hl 4 rfl) ?_
            refine lv_iload hx hb dX9_firmest_52 (lv_at hl 0 rfl) ?_
            refine lv_iload_n hx hb dX9_firmest_54 rfl (lv_at hl 3 rfl) ?_
            refine tVI (As := [.int v24_l5, .int v24_l2]) (rest := []) (i := 148) ⟨hx, hb, hml, hown, hts⟩ hK hE hP hD hS hA hAB (s_X9_borne_0 l B0 adK adV D cy ad fr0 c_text m_taped m_size m_faultKind m_faultPlace m_at m_end m_token m_number m_name c_points c_strands c_units c_told c_ruleFrom c_ruleTo c_code c_eWhat c_eSign m_bank m_rb m_codes m_within m_piled m_unitsInRule v24_p_m_askStrand v24_p_m_askTied m_thoughtClaim m_thoughtNeed m_thoughtAll v24_p_c_roundOf m_acts m_undone m_laid m_firstMove m_seens m_time m_waysNow m_fitting f hT v24_l5 (by omega) v24_l2 (by omega) _) (cwV 2 hts gX9_firmest_X9_borne rfl rfl rfl (by decide +kernel) ⟨Nat.le_of_ble_eq_true rfl, Nat.le_of_ble_eq_true rfl⟩) (by decide) 9 e18 rfl rfl hl.1 rfl (Nat.le_of_ble_eq_true rfl) dX9_firmest_55 ⟨Nat.le_of_ble_eq_true rfl, Nat.le_of_ble_eq_true rfl⟩ (fun r g H locs hw hP hD hS => ?_)
            obtain ⟨hrs, rfl⟩ := hw
            obtain ⟨x29, rfl⟩ : ∃ q, q = r := ⟨_, rfl⟩
            have h30 := hrs
            refine lv_aload_n hx hb dX9_firmest_58 rfl (lv_at hl 4 rfl) ?_
            refine lv_iload hx hb dX9_firmest_59 (lv_at hl 0 rfl) ?_
            refine tVI (As := [.int v24_l5]) (rest := [.int x29]) (i := 148) ⟨hx, hb, hml, hown, hts⟩ hK hE hP hD hS hA hAB (s_X9_needOf_0 l B0 adK adV D cy ad fr0 c_text m_taped m_size m_faultKind m_faultPlace m_at m_end m_token m_number m_name c_points c_strands c_units c_told c_ruleFrom c_ruleTo c_code c_eWhat c_eSign m_bank m_rb m_codes m_within m_piled m_unitsInRule v24_p_m_askStrand v24_p_m_askTied m_thoughtClaim m_thoughtNeed m_thoughtAll v24_p_c_roundOf m_acts m_undone m_laid m_firstMove m_seens m_time m_waysNow m_fitting f hT v24_l5 (by omega) _) (cwV 1 hts gX9_firmest_X9_needOf rfl rfl rfl (by decide +kernel) ⟨Nat.le_of_ble_eq_true rfl, Nat.le_of_ble_eq_true rfl⟩) (by decide) 9 e18 rfl rfl hl.1 rfl (Nat.le_of_ble_eq_true rfl) dX9_firmest_61 ⟨Nat.le_of_ble_eq_true rfl, Nat.le_of_ble_eq_true rfl⟩ (fun r g H locs hw hP hD hS => ?_)
            obtain ⟨hrs, rfl⟩ := hw
            obtain ⟨x31, rfl⟩ : ∃ q, q = r := ⟨_, rfl⟩
            have h32 := hrs
            refine lv_isub hx hb dX9_firmest_64 ?_
            refine lv_topi (fun x33 ex33 => ?_)
            refine lv_goto (tgt := 69) hx hb dX9_firmest_65 (by decide) ?_
            exact j69 f H locs ls x33 (by omega) (by omega) (by omega) (by omega) (by omega) (by omega) hT hP hD hS (lv_sub hl [0, 1, 2, 3, 4, 5] rfl)
          · refine lv_if_eq (tgt := 68) hx hb dX9_firmest_48 (by decide) (fun _ => ?_) (fun c => absurd (by decide) c)
            exact j68 f H locs ls (by omega) (by omega) (by omega) (by omega) (by omega) (by omega) hT hP hD hS (lv_sub hl [0, 1, 2, 3, 4, 5] rfl)
        · refine lv_if_eq (tgt := 68) hx hb dX9_firmest_39 (by decide) (fun _ => ?_) (fun c => absurd (by decide) c)
          exact j68 f H locs ls (by omega) (by omega) (by omega) (by omega) (by omega) (by omega) hT hP hD hS (lv_sub hl [0, 1, 2, 3, 4, 5] rfl)
  refine lv_iload_n hx hb dX9_firmest_0 rfl (lv_at hl 1 rfl) ?_
  refine lv_iconst (v := 0) hx hb dX9_firmest_1 (by decide) ?_
  refine lv_iconst (v := 1) hx hb dX9_firmest_2 (by decide) ?_
  have ttl_0 := tl_0
  have ttl_1 := tl_1
  refine tSI (As := [.int p1, .int 0, .int 1]) (rest := []) ⟨hx, hb, hml, hown, hts⟩ hK hE hP hD hS hA hAB (s_X9_isIn_0 l B0 adK adV D cy ad f p1 (0 : Int32) (by omega) (1 : Int32) (by omega) _) (va_cwS 3 hts gX9_firmest_X9_isIn rfl rfl rfl (by decide +kernel) ⟨Nat.le_of_ble_eq_true rfl, Nat.le_of_ble_eq_true rfl⟩) rfl hl.1 rfl (Nat.le_of_ble_eq_true rfl) dX9_firmest_3 ⟨Nat.le_of_ble_eq_true rfl, Nat.le_of_ble_eq_true rfl⟩ (fun r g H locs hw hP hD hS => ?_)
  obtain ⟨hrs, rfl⟩ := hw
  obtain ⟨x34, rfl⟩ : ∃ q, q = r := ⟨_, rfl⟩
  rcases hrs with ⟨rfl, h35, h36⟩ | rfl
  · refine lv_if_ne (tgt := 11) hx hb dX9_firmest_6 (by decide) (fun _ => ?_) (fun c => absurd c (by decide))
    refine lv_aload_n hx hb dX9_firmest_11 rfl (lv_at hl 0 rfl) ?_
    obtain ⟨e52, h37, h38, h39, h40, h41, h42, h43, h44, h45, h46, h47, h48, h49, h50, h51⟩ := (show okX9 ad m_taped m_size m_faultKind m_faultPlace m_at m_end m_token m_number m_name m_bank m_rb m_codes m_within m_piled m_unitsInRule m_askStrand m_askTied m_thoughtClaim m_thoughtNeed m_thoughtAll m_acts m_undone m_laid m_firstMove m_seens m_time m_waysNow m_fitting 148 (f 148) from hT.1 148 (by decide))
    refine tVI (As := []) (rest := []) (i := 148) ⟨hx, hb, hml, hown, hts⟩ hK hE hP hD hS hA hAB (s_X9_standNow_0 l B0 adK adV D cy ad fr0 c_text m_taped m_size m_faultKind m_faultPlace m_at m_end m_token m_number m_name c_points c_strands c_units c_told c_ruleFrom c_ruleTo c_code c_eWhat c_eSign m_bank m_rb m_codes m_within m_piled m_unitsInRule m_askStrand m_askTied m_thoughtClaim m_thoughtNeed m_thoughtAll c_roundOf m_acts m_undone m_laid m_firstMove m_seens m_time m_waysNow m_fitting f hT hCV _) (cwV 0 hts gX9_firmest_X9_standNow rfl rfl rfl (by decide +kernel) ⟨Nat.le_of_ble_eq_true rfl, Nat.le_of_ble_eq_true rfl⟩) (by decide) 9 e52 rfl rfl hl.1 rfl (Nat.le_of_ble_eq_true rfl) dX9_firmest_12 ⟨Nat.le_of_ble_eq_true rfl, Nat.le_of_ble_eq_true rfl⟩ (fun r f H locs hw hP hD hS => ?_)
    obtain ⟨hrs, x53, x54, y55, hT, h56⟩ := hw
    obtain ⟨x57, rfl⟩ : ∃ q, q = r := ⟨_, rfl⟩
    have h58 := hrs
    refine lv_istore_n (lv' := [(2, .int x57), (0, .ref (ad 148)), (1, .int p1)]) hx hb dX9_firmest_15 rfl hl (by decide) rfl (fun ls hl => ?_)
    refine lv_iconst (v := (-1)) hx hb dX9_firmest_16 (by decide) ?_
    refine lv_istore_n (lv' := [(3, .int (-1)), (2, .int x57), (0, .ref (ad 148)), (1, .int p1)]) hx hb dX9_firmest_17 rfl hl (by decide) rfl (fun ls hl => ?_)
    refine lv_iconst (v := (-1)) hx hb dX9_firmest_18 (by decide) ?_
    refine lv_istore (lv' := [(4, .int (-1)), (3, .int (-1)), (2, .int x57), (0, .ref (ad 148)), (1, .int p1)]) hx hb dX9_firmest_19 hl (by decide) rfl (fun ls hl => ?_)
    refine lv_iconst (v := 0) hx hb dX9_firmest_21 (by decide) ?_
    refine lv_istore (lv' := [(5, .int 0), (4, .int (-1)), (3, .int (-1)), (2, .int x57), (0, .ref (ad 148)), (1, .int p1)]) hx hb dX9_firmest_22 hl (by decide) rfl (fun ls hl => ?_)
    have ttl_m1 := tl_m1
    exact j24 (Int.toNat (11 - (0 : Int32).toInt)) f H locs ls (0 : Int32) ((-1) : Int32) ((-1) : Int32) x57 x53 x54 y55 (by omega) (by omega) (by omega) (by omega) (by omega) (by omega) (by omega) hT hP hD hS (lv_sub hl [0, 1, 2, 3, 4, 5] rfl)
  · refine lv_if_ne (tgt := 11) hx hb dX9_firmest_6 (by decide) (fun c => absurd (by decide) c) (fun _ => ?_)
    refine lv_iconst (v := (-1)) hx hb dX9_firmest_9 (by decide) ?_
    have ttl_m1 := tl_m1
    exact tI hx hb hr hlk rfl hP hS ⟨(by omega), ⟨m_askStrand, m_askTied, c_roundOf, hT⟩⟩ dX9_firmest_10
set_option maxHeartbeats 4000000 in
set_option maxRecDepth 100000 in
theorem s_X9_burdened_0 (l : Launch) (B0 : Nat) (adK adV : Nat → Nat) (D : va_G) (cy : Nat → ClassId) (ad : Nat → Nat) (fr0 : Nat → va_E) (c_text : Nat → Int32) (m_taped : Int32) (m_size : Int32) (m_faultKind : Int32) (m_faultPlace : Int32) (m_at : Int32) (m_end : Int32) (m_token : Int32) (m_number : Int32) (m_name : Int64) (c_points : Nat → Int32) (c_strands : Nat → Int32) (c_units : Nat → Int32) (c_told : Nat → Int32) (c_ruleFrom : Nat → Int32) (c_ruleTo : Nat → Int32) (c_code : Nat → Int32) (c_eWhat : Nat → Int32) (c_eSign : Nat → Int32) (m_bank : Int32) (m_rb : Int32) (m_codes : Int32) (m_within : Int32) (m_piled : Int32) (m_unitsInRule : Int32) (m_askStrand : Int32) (m_askTied : Int32) (m_thoughtClaim : Int32) (m_thoughtNeed : Int32) (m_thoughtAll : Int32) (c_roundOf : Nat → Int32) (m_acts : Int32) (m_undone : Int32) (m_laid : Int32) (m_firstMove : Int32) (m_seens : Int32) (m_time : Int32) (m_waysNow : Int32) (m_fitting : Int32) (f : Nat → va_E) (hT : TYm ad cy fr0 c_text m_taped m_size m_faultKind m_faultPlace m_at m_end m_token m_number m_name c_points c_strands c_units c_told c_ruleFrom c_ruleTo c_code c_eWhat c_eSign m_bank m_rb m_codes m_within m_piled m_unitsInRule m_askStrand m_askTied m_thoughtClaim m_thoughtNeed m_thoughtAll c_roundOf m_acts m_undone m_laid m_firstMove m_seens m_time m_waysNow m_fitting f) (sz : Nat) : TtI l yX9_burdened wsX9_burdened 2 44 [.ref (ad 148)] B0 adK adV D cy ad f sz (fun (r : Int32) (g : Nat → va_E) => (-1 ≤ r.toInt ∧ r.toInt ≤ 9) ∧ (f = g)) := by
  refine TtI.of (cc := cX9_burdened) (maxL := 3) (ty := .int) (own := RX9) (by decide) rfl (Nat.le_of_ble_eq_true rfl) rfl ?_
  intro p e s m below meth c A ls hx hb hr hml hts hown hlk hK hE hP hD hS hA hAB hl
  have hl : lv_has ls 3 [(0, .ref (ad 148))] := hl
  refine st0 (fun H locs hP hS => ?_) hP hS
  have j4 : ∀ (N : Nat) (H : Heap) (locs : List Loc) (ls : Array Slot) (v4_l2 : Int32) (v4_l1 : Int32), (11 - v4_l2.toInt ≤ (N : Int)) → (0 ≤ v4_l2.toInt ∧ v4_l2.toInt ≤ 10) → (-1 ≤ v4_l1.toInt ∧ v4_l1.toInt ≤ 9) → (va_P D vwCl (wl ad f) H) → (va_D A (wl ad f)) → (va_S A s.heap H locs) → (lv_has ls 3 [(2, .int v4_l2), (1, .int v4_l1), (0, .ref (ad 148))]) → W p l e (rmO 2 44 0 0) s m ([.ref (ad 148)] : List Value).toArray below meth c H locs 0 0 (MQ below (va_Qi (fun (r : Int32) (g : Nat → va_E) => (-1 ≤ r.toInt ∧ r.toInt ≤ 9) ∧ (f = g)) (fun g t => PstT D ad g t) A) ([.ref (ad 148)] : List Value).toArray s 0 0 A) (F0 m 4 ls []) := by
    intro N
    induction N with
    | zero => intro H locs ls v4_l2 v4_l1 hN hv4_l2 hv4_l1 hP hD hS hl; exact absurd hN (by omega)
    | succ N ih4 =>
      intro H locs ls v4_l2 v4_l1 hN hv4_l2 hv4_l1 hP hD hS hl
      have j51 : ∀ (H : Heap) (locs : List Loc) (ls : Array Slot) (v51_l1 : Int32), (0 ≤ v4_l2.toInt ∧ v4_l2.toInt ≤ 9) → (0 ≤ v51_l1.toInt ∧ v51_l1.toInt ≤ 9) → (va_P D vwCl (wl ad f) H) → (va_D A (wl ad f)) → (va_S A s.heap H locs) → (lv_has ls 3 [(2, .int v4_l2), (1, .int v51_l1), (0, .ref (ad 148))]) → W p l e (rmO 2 44 0 0) s m ([.ref (ad 148)] : List Value).toArray below meth c H locs 0 0 (MQ below (va_Qi (fun (r : Int32) (g : Nat → va_E) => (-1 ≤ r.toInt ∧ r.toInt ≤ 9) ∧ (f = g)) (fun g t => PstT D ad g t) A) ([.ref (ad 148)] : List Value).toArray s 0 0 A) (F0 m 51 ls []) := by
        intro H locs ls v51_l1 hv51_l2 hv51_l1 hP hD hS hl
        obtain ⟨x1, ex1⟩ : ∃ q : Int32, q = v4_l2 + Int32.ofInt (1) := ⟨_, rfl⟩
        refine lv_iinc (v := x1) (lv' := [(2, .int x1), (1, .int v51_l1), (0, .ref (ad 148))]) hx hb dX9_burdened_51 hl (k := 0) rfl ex1.symm (by decide) rfl (fun ls hl => ?_)
        have hx1 := r_inc ex1 (by decide) (by omega) (by omega)
        refine lv_goto (tgt := 4) hx hb dX9_burdened_54 (by decide) ?_
        exact ih4 H locs ls x1 v51_l1 (by omega) (by omega) (by omega) hP hD hS (lv_sub hl [0, 1, 2] rfl)
      have j49 : ∀ (H : Heap) (locs : List Loc) (ls : Array Slot), (0 ≤ v4_l2.toInt ∧ v4_l2.toInt ≤ 9) → (-1 ≤ v4_l1.toInt ∧ v4_l1.toInt ≤ 9) → (va_P D vwCl (wl ad f) H) → (va_D A (wl ad f)) → (va_S A s.heap H locs) → (lv_has ls 3 [(2, .int v4_l2), (1, .int v4_l1), (0, .ref (ad 148))]) → W p l e (rmO 2 44 0 0) s m ([.ref (ad 148)] : List Value).toArray below meth c H locs 0 0 (MQ below (va_Qi (fun (r : Int32) (g : Nat → va_E) => (-1 ≤ r.toInt ∧ r.toInt ≤ 9) ∧ (f = g)) (fun g t => PstT D ad g t) A) ([.ref (ad 148)] : List Value).toArray s 0 0 A) (F0 m 49 ls []) := by
        intro H locs ls hv49_l2 hv49_l1 hP hD hS hl
        refine lv_iload_n hx hb dX9_burdened_49 rfl (lv_at hl 0 rfl) ?_
        refine lv_istore_n (lv' := [(1, .int v4_l2), (2, .int v4_l2), (0, .ref (ad 148))]) hx hb dX9_burdened_50 rfl hl (by decide) rfl (fun ls hl => ?_)
        exact j51 H locs ls v4_l2 (by omega) (by omega) hP hD hS (lv_sub hl [1, 0, 2] rfl)
      refine lv_iload_n hx hb dX9_burdened_4 rfl (lv_at hl 0 rfl) ?_
      refine lv_aload_n hx hb dX9_burdened_5 rfl (lv_at hl 2 rfl) ?_
      obtain ⟨e17, h2, h3, h4, h5, h6, h7, h8, h9, h10, h11, h12, h13, h14, h15, h16⟩ := (show okX9 ad m_taped m_size m_faultKind m_faultPlace m_at m_end m_token m_number m_name m_bank m_rb m_codes m_within m_piled m_unitsInRule m_askStrand m_askTied m_thoughtClaim m_thoughtNeed m_thoughtAll m_acts m_undone m_laid m_firstMove m_seens m_time m_waysNow m_fitting 148 (f 148) from hT.1 148 (by decide))
      refine tVI (As := []) (rest := [.int v4_l2]) (i := 148) ⟨hx, hb, hml, hown, hts⟩ hK hE hP hD hS hA hAB (s_X9_many_0 l B0 adK adV D cy ad fr0 c_text m_taped m_size m_faultKind m_faultPlace m_at m_end m_token m_number m_name c_points c_strands c_units c_told c_ruleFrom c_ruleTo c_code c_eWhat c_eSign m_bank m_rb m_codes m_within m_piled m_unitsInRule m_askStrand m_askTied m_thoughtClaim m_thoughtNeed m_thoughtAll c_roundOf m_acts m_undone m_laid m_firstMove m_seens m_time m_waysNow m_fitting f hT _) (cwV 0 hts gX9_burdened_X9_many rfl rfl rfl (by decide +kernel) ⟨Nat.le_of_ble_eq_true rfl, Nat.le_of_ble_eq_true rfl⟩) (by decide) 9 e17 rfl rfl hl.1 rfl (Nat.le_of_ble_eq_true rfl) dX9_burdened_6 ⟨Nat.le_of_ble_eq_true rfl, Nat.le_of_ble_eq_true rfl⟩ (fun r g H locs hw hP hD hS => ?_)
      obtain ⟨hrs, rfl⟩ := hw
      obtain ⟨x18, rfl⟩ : ∃ q, q = r := ⟨_, rfl⟩
      have h19 := hrs
      refine lv_icmp_ge (tgt := 57) hx hb dX9_burdened_9 (by decide) (fun c20 => ?_) (fun c20 => ?_)
      · have kc20 := c_le c20
        refine lv_iload_n hx hb dX9_burdened_57 rfl (lv_at hl 1 rfl) ?_
        exact tI hx hb hr hlk rfl hP hS ⟨(by omega), rfl⟩ dX9_burdened_58
      · have kc20 := c_nle c20
        refine lv_iload_n hx hb dX9_burdened_12 rfl (lv_at hl 1 rfl) ?_
        have ttl_0 := tl_0
        refine lv_if_lt (tgt := 49) hx hb dX9_burdened_13 (by decide) (fun c21 => ?_) (fun c21 => ?_)
        · have kc21 := c_lt c21
          exact j49 H locs ls (by omega) (by omega) hP hD hS (lv_sub hl [0, 1, 2] rfl)
        · have kc21 := c_nlt c21
          refine lv_aload_n hx hb dX9_burdened_16 rfl (lv_at hl 2 rfl) ?_
          refine lv_iload_n hx hb dX9_burdened_17 rfl (lv_at hl 0 rfl) ?_
          refine tVI (As := [.int v4_l2]) (rest := []) (i := 148) ⟨hx, hb, hml, hown, hts⟩ hK hE hP hD hS hA hAB (s_X9_leadingFrom_0 l B0 adK adV D cy ad fr0 c_text m_taped m_size m_faultKind m_faultPlace m_at m_end m_token m_number m_name c_points c_strands c_units c_told c_ruleFrom c_ruleTo c_code c_eWhat c_eSign m_bank m_rb m_codes m_within m_piled m_unitsInRule m_askStrand m_askTied m_thoughtClaim m_thoughtNeed m_thoughtAll c_roundOf m_acts m_undone m_laid m_firstMove m_seens m_time m_waysNow m_fitting f hT v4_l2 (by omega) _) (cwV 1 hts gX9_burdened_X9_leadingFrom rfl rfl rfl (by decide +kernel) ⟨Nat.le_of_ble_eq_true rfl, Nat.le_of_ble_eq_true rfl⟩) (by decide) 9 e17 rfl rfl hl.1 rfl (Nat.le_of_ble_eq_true rfl) dX9_burdened_18 ⟨Nat.le_of_ble_eq_true rfl, Nat.le_of_ble_eq_true rfl⟩ (fun r g H locs hw hP hD hS => ?_)
          obtain ⟨hrs, rfl⟩ := hw
          obtain ⟨x22, rfl⟩ : ∃ q, q = r := ⟨_, rfl⟩
          have h23 := hrs
          refine lv_aload_n hx hb dX9_burdened_21 rfl (lv_at hl 2 rfl) ?_
          refine va_get (D := D) (cl := vwCl) (ci := 9) (v := .ref (ad 169)) (C := RX9) (T := TX9) (N := 64) hx hb hts in_X9_burdened_X9 hown hK hP 148 (wl_at (by decide) e17) rfl 37 (by decide) (hts (.fieldLink RX9 76 "EightReasonsModel" "all" "[I") (List.mem_of_getElem? (i := 1) rfl)) (fun _ h9 => h9) rfl dX9_burdened_22 ?_
          refine lv_iconst (v := 1) hx hb dX9_burdened_25 (by decide) ?_
          obtain ⟨g26, e24, h25⟩ := (show okIr cy 16 (0) (4095) 16 1 (f 169) from hT.1 169 (by decide))
          have ttl_1 := tl_1
          refine va_iald hx hb hK hP 169 0 (wl_at (by decide) e24) rfl (vin (by decide)) dX9_burdened_26 ?_
          refine lv_topi (fun x27 ex27 => ?_)
          have hx27 := r_el (h25 _ (by decide)) ex27
          refine lv_iand hx hb dX9_burdened_27 ?_
          refine lv_topi (fun x28 ex28 => ?_)
          have hx28 := r_andr ex28 (by omega)
          refine tSI (As := [.int x28]) (rest := []) ⟨hx, hb, hml, hown, hts⟩ hK hE hP hD hS hA hAB (s_X9_bitsOf_0 l B0 adK adV D cy ad f x28 (by omega) _) (va_cwS 1 hts gX9_burdened_X9_bitsOf rfl rfl rfl (by decide +kernel) ⟨Nat.le_of_ble_eq_true rfl, Nat.le_of_ble_eq_true rfl⟩) rfl hl.1 rfl (Nat.le_of_ble_eq_true rfl) dX9_burdened_28 ⟨Nat.le_of_ble_eq_true rfl, Nat.le_of_ble_eq_true rfl⟩ (fun r g H locs hw hP hD hS => ?_)
          obtain ⟨hrs, rfl⟩ := hw
          obtain ⟨x29, rfl⟩ : ∃ q, q = r := ⟨_, rfl⟩
          have h30 := hrs
          refine lv_aload_n hx hb dX9_burdened_31 rfl (lv_at hl 2 rfl) ?_
          refine lv_iload_n hx hb dX9_burdened_32 rfl (lv_at hl 1 rfl) ?_
          refine tVI (As := [.int v4_l1]) (rest := [.int x29]) (i := 148) ⟨hx, hb, hml, hown, hts⟩ hK hE hP hD hS hA hAB (s_X9_leadingFrom_0 l B0 adK adV D cy ad fr0 c_text m_taped m_size m_faultKind m_faultPlace m_at m_end m_token m_number m_name c_points c_strands c_units c_told c_ruleFrom c_ruleTo c_code c_eWhat c_eSign m_bank m_rb m_codes m_within m_piled m_unitsInRule m_askStrand m_askTied m_thoughtClaim m_thoughtNeed m_thoughtAll c_roundOf m_acts m_undone m_laid m_firstMove m_seens m_time m_waysNow m_fitting f hT v4_l1 (by omega) _) (cwV 1 hts gX9_burdened_X9_leadingFrom rfl rfl rfl (by decide +kernel) ⟨Nat.le_of_ble_eq_true rfl, Nat.le_of_ble_eq_true rfl⟩) (by decide) 9 e17 rfl rfl hl.1 rfl (Nat.le_of_ble_eq_true rfl) dX9_burdened_33 ⟨Nat.le_of_ble_eq_true rfl, Nat.le_of_ble_eq_true rfl⟩ (fun r g H locs hw hP hD hS => ?_)
          obtain ⟨hrs, rfl⟩ := hw
          obtain ⟨x31, rfl⟩ : ∃ q, q = r := ⟨_, rfl⟩
          have h32 := hrs
          refine lv_aload_n hx hb dX9_burdened_36 rfl (lv_at hl 2 rfl) ?_
          refine va_get (D := D) (cl := vwCl) (ci := 9) (v := .ref (ad 169)) (C := RX9) (T := TX9) (N := 64) hx hb hts in_X9_burdened_X9 hown hK hP 148 (wl_at (by decide) e17) rfl 37 (by decide) (hts (.fieldLink RX9 76 "EightReasonsModel" "all" "[I") (List.mem_of_getElem? (i := 1) rfl)) (fun _ h9 => h9) rfl dX9_burdened_37 ?_
          refine lv_iconst (v := 1) hx hb dX9_burdened_40 (by decide) ?_
          refine va_iald hx hb hK hP 169 0 (wl_at (by decide) e24) rfl (vin (by decide)) dX9_burdened_41 ?_
          refine lv_topi (fun x33 ex33 => ?_)
          have hx33 := r_el (h25 _ (by decide)) ex33
          refine lv_iand hx hb dX9_burdened_42 ?_
          refine lv_topi (fun x34 ex34 => ?_)
          have hx34 := r_andr ex34 (by omega)
          refine tSI (As := [.int x34]) (rest := [.int x29]) ⟨hx, hb, hml, hown, hts⟩ hK hE hP hD hS hA hAB (s_X9_bitsOf_0 l B0 adK adV D cy ad f x34 (by omega) _) (va_cwS 1 hts gX9_burdened_X9_bitsOf rfl rfl rfl (by decide +kernel) ⟨Nat.le_of_ble_eq_true rfl, Nat.le_of_ble_eq_true rfl⟩) rfl hl.1 rfl (Nat.le_of_ble_eq_true rfl) dX9_burdened_43 ⟨Nat.le_of_ble_eq_true rfl, Nat.le_of_ble_eq_true rfl⟩ (fun r g H locs hw hP hD hS => ?_)
          obtain ⟨hrs, rfl⟩ := hw
          obtain ⟨x35, rfl⟩ : ∃ q, q = r := ⟨_, rfl⟩
          have h36 := hrs
          refine lv_icmp_le (tgt := 51) hx hb dX9_burdened_46 (by decide) (fun c37 => ?_) (fun c37 => ?_)
          · have kc37 := c_le c37
            exact j51 H locs ls v4_l1 (by omega) (by omega) hP hD hS (lv_sub hl [0, 1, 2] rfl)
          · have kc37 := c_nle c37
            exact j49 H locs ls (by omega) (by omega) hP hD hS (lv_sub hl [0, 1, 2] rfl)
  refine lv_iconst (v := (-1)) hx hb dX9_burdened_0 (by decide) ?_
  refine lv_istore_n (lv' := [(1, .int (-1)), (0, .ref (ad 148))]) hx hb dX9_burdened_1 rfl hl (by decide) rfl (fun ls hl => ?_)
  refine lv_iconst (v := 0) hx hb dX9_burdened_2 (by decide) ?_
  refine lv_istore_n (lv' := [(2, .int 0), (1, .int (-1)), (0, .ref (ad 148))]) hx hb dX9_burdened_3 rfl hl (by decide) rfl (fun ls hl => ?_)
  have ttl_0 := tl_0
  have ttl_m1 := tl_m1
  exact j4 (Int.toNat (11 - (0 : Int32).toInt)) H locs ls (0 : Int32) ((-1) : Int32) (by omega) (by omega) (by omega) hP hD hS (lv_sub hl [0, 1, 2] rfl)
set_option maxHeartbeats 4000000 in
set_option maxRecDepth 100000 in
theorem s_X9_behind_0 (l : Launch) (B0 : Nat) (adK adV : Nat → Nat) (D : va_G) (cy : Nat → ClassId) (ad : Nat → Nat) (fr0 : Nat → va_E) (c_text : Nat → Int32) (m_taped : Int32) (m_size : Int32) (m_faultKind : Int32) (m_faultPlace : Int32) (m_at : Int32) (m_end : Int32) (m_token : Int32) (m_number : Int32) (m_name : Int64) (c_points : Nat → Int32) (c_strands : Nat → Int32) (c_units : Nat → Int32) (c_told : Nat → Int32) (c_ruleFrom : Nat → Int32) (c_ruleTo : Nat → Int32) (c_code : Nat → Int32) (c_eWhat : Nat → Int32) (c_eSign : Nat → Int32) (m_bank : Int32) (m_rb : Int32) (m_codes : Int32) (m_within : Int32) (m_piled : Int32) (m_unitsInRule : Int32) (m_askStrand : Int32) (m_askTied : Int32) (m_thoughtClaim : Int32) (m_thoughtNeed : Int32) (m_thoughtAll : Int32) (c_roundOf : Nat → Int32) (m_acts : Int32) (m_undone : Int32) (m_laid : Int32) (m_firstMove : Int32) (m_seens : Int32) (m_time : Int32) (m_waysNow : Int32) (m_fitting : Int32) (f : Nat → va_E) (hT : TYm ad cy fr0 c_text m_taped m_size m_faultKind m_faultPlace m_at m_end m_token m_number m_name c_points c_strands c_units c_told c_ruleFrom c_ruleTo c_code c_eWhat c_eSign m_bank m_rb m_codes m_within m_piled m_unitsInRule m_askStrand m_askTied m_thoughtClaim m_thoughtNeed m_thoughtAll c_roundOf m_acts m_undone m_laid m_firstMove m_seens m_time m_waysNow m_fitting f) (p1 : Int32) (hp1 : 0 ≤ p1.toInt ∧ p1.toInt ≤ 4095) (sz : Nat) : TtI l yX9_behind wsX9_behind 1 21 [.ref (ad 148), .int p1] B0 adK adV D cy ad f sz (fun (r : Int32) (g : Nat → va_E) => (0 ≤ r.toInt ∧ r.toInt ≤ 4095) ∧ (f = g)) := by
  refine TtI.of (cc := cX9_behind) (maxL := 4) (ty := .int) (own := RX9) (by decide) rfl (Nat.le_of_ble_eq_true rfl) rfl ?_
  intro p e s m below meth c A ls hx hb hr hml hts hown hlk hK hE hP hD hS hA hAB hl
  have hl : lv_has ls 4 [(0, .ref (ad 148)), (1, .int p1)] := hl
  refine st0 (fun H locs hP hS => ?_) hP hS
  have j4 : ∀ (N : Nat) (H : Heap) (locs : List Loc) (ls : Array Slot) (v4_l3 : Int32) (v4_l2 : Int32), (13 - v4_l3.toInt ≤ (N : Int)) → (0 ≤ v4_l3.toInt ∧ v4_l3.toInt ≤ 12) → (0 ≤ v4_l2.toInt ∧ v4_l2.toInt ≤ 4095) → (0 ≤ p1.toInt ∧ p1.toInt ≤ 4095) → (va_P D vwCl (wl ad f) H) → (va_D A (wl ad f)) → (va_S A s.heap H locs) → (lv_has ls 4 [(3, .int v4_l3), (2, .int v4_l2), (0, .ref (ad 148)), (1, .int p1)]) → W p l e (rmO 1 21 0 0) s m ([.ref (ad 148), .int p1] : List Value).toArray below meth c H locs 0 0 (MQ below (va_Qi (fun (r : Int32) (g : Nat → va_E) => (0 ≤ r.toInt ∧ r.toInt ≤ 4095) ∧ (f = g)) (fun g t => PstT D ad g t) A) ([.ref (ad 148), .int p1] : List Value).toArray s 0 0 A) (F0 m 4 ls []) := by
    intro N
    induction N with
    | zero => intro H locs ls v4_l3 v4_l2 hN hv4_l3 hv4_l2 hv4_l1 hP hD hS hl; exact absurd hN (by omega)
    | succ N ih4 =>
      intro H locs ls v4_l3 v4_l2 hN hv4_l3 hv4_l2 hv4_l1 hP hD hS hl
      have j47 : ∀ (H : Heap) (locs : List Loc) (ls : Array Slot) (v47_l2 : Int32), (0 ≤ v47_l2.toInt ∧ v47_l2.toInt ≤ 4095) → (0 ≤ v4_l3.toInt ∧ v4_l3.toInt ≤ 11) → (0 ≤ p1.toInt ∧ p1.toInt ≤ 4095) → (va_P D vwCl (wl ad f) H) → (va_D A (wl ad f)) → (va_S A s.heap H locs) → (lv_has ls 4 [(2, .int v47_l2), (3, .int v4_l3), (0, .ref (ad 148)), (1, .int p1)]) → W p l e (rmO 1 21 0 0) s m ([.ref (ad 148), .int p1] : List Value).toArray below meth c H locs 0 0 (MQ below (va_Qi (fun (r : Int32) (g : Nat → va_E) => (0 ≤ r.toInt ∧ r.toInt ≤ 4095) ∧ (f = g)) (fun g t => PstT D ad g t) A) ([.ref (ad 148), .int p1] : List Value).toArray s 0 0 A) (F0 m 47 ls []) := by
        intro H locs ls v47_l2 hv47_l2 hv47_l3 hv47_l1 hP hD hS hl
        obtain ⟨x1, ex1⟩ : ∃ q : Int32, q = v4_l3 + Int32.ofInt (1) := ⟨_, rfl⟩
        refine lv_iinc (v := x1) (lv' := [(3, .int x1), (2, .int v47_l2), (0, .ref (ad 148)), (1, .int p1)]) hx hb dX9_behind_47 hl (k := 1) rfl ex1.symm (by decide) rfl (fun ls hl => ?_)
        have hx1 := r_inc ex1 (by decide) (by omega) (by omega)
        refine lv_goto (tgt := 4) hx hb dX9_behind_50 (by decide) ?_
        exact ih4 H locs ls x1 v47_l2 (by omega) (by omega) (by omega) (by omega) hP hD hS (lv_sub hl [0, 1, 2, 3] rfl)
      refine lv_iload_n hx hb dX9_behind_4 rfl (lv_at hl 0 rfl) ?_
      refine lv_aload_n hx hb dX9_behind_5 rfl (lv_at hl 2 rfl) ?_
      obtain ⟨e17, h2, h3, h4, h5, h6, h7, h8, h9, h10, h11, h12, h13, h14, h15, h16⟩ := (show okX9 ad m_taped m_size m_faultKind m_faultPlace m_at m_end m_token m_number m_name m_bank m_rb m_codes m_within m_piled m_unitsInRule m_askStrand m_askTied m_thoughtClaim m_thoughtNeed m_thoughtAll m_acts m_undone m_laid m_firstMove m_seens m_time m_waysNow m_fitting 148 (f 148) from hT.1 148 (by decide))
      refine tVI (As := []) (rest := [.int v4_l3]) (i := 148) ⟨hx, hb, hml, hown, hts⟩ hK hE hP hD hS hA hAB (s_X9_threads_0 l B0 adK adV D cy ad fr0 c_text m_taped m_size m_faultKind m_faultPlace m_at m_end m_token m_number m_name c_points c_strands c_units c_told c_ruleFrom c_ruleTo c_code c_eWhat c_eSign m_bank m_rb m_codes m_within m_piled m_unitsInRule m_askStrand m_askTied m_thoughtClaim m_thoughtNeed m_thoughtAll c_roundOf m_acts m_undone m_laid m_firstMove m_seens m_time m_waysNow m_fitting f hT _) (cwV 0 hts gX9_behind_X9_threads rfl rfl rfl (by decide +kernel) ⟨Nat.le_of_ble_eq_true rfl, Nat.le_of_ble_eq_true rfl⟩) (by decide) 9 e17 rfl rfl hl.1 rfl (Nat.le_of_ble_eq_true rfl) dX9_behind_6 ⟨Nat.le_of_ble_eq_true rfl, Nat.le_of_ble_eq_true rfl⟩ (fun r g H locs hw hP hD hS => ?_)
      obtain ⟨hrs, rfl⟩ := hw
      obtain ⟨x18, rfl⟩ : ∃ q, q = r := ⟨_, rfl⟩
      have h19 := hrs
      refine lv_icmp_ge (tgt := 53) hx hb dX9_behind_9 (by decide) (fun c20 => ?_) (fun c20 => ?_)
      · have kc20 := c_le c20
        refine lv_iload_n hx hb dX9_behind_53 rfl (lv_at hl 1 rfl) ?_
        exact tI hx hb hr hlk rfl hP hS ⟨(by omega), rfl⟩ dX9_behind_54
      · have kc20 := c_nle c20
        refine lv_aload_n hx hb dX9_behind_12 rfl (lv_at hl 2 rfl) ?_
        refine va_get (D := D) (cl := vwCl) (ci := 9) (v := .ref (ad 169)) (C := RX9) (T := TX9) (N := 64) hx hb hts in_X9_behind_X9 hown hK hP 148 (wl_at (by decide) e17) rfl 37 (by decide) (hts (.fieldLink RX9 76 "EightReasonsModel" "all" "[I") (List.mem_of_getElem? (i := 1) rfl)) (fun _ h9 => h9) rfl dX9_behind_13 ?_
        refine lv_iconst (v := 1) hx hb dX9_behind_16 (by decide) ?_
        obtain ⟨g23, e21, h22⟩ := (show okIr cy 16 (0) (4095) 16 1 (f 169) from hT.1 169 (by decide))
        have ttl_1 := tl_1
        refine va_iald hx hb hK hP 169 0 (wl_at (by decide) e21) rfl (vin (by decide)) dX9_behind_17 ?_
        refine lv_topi (fun x24 ex24 => ?_)
        have hx24 := r_el (h22 _ (by decide)) ex24
        refine lv_iload_n hx hb dX9_behind_18 rfl (lv_at hl 0 rfl) ?_
        refine tSI (As := [.int x24, .int v4_l3]) (rest := []) ⟨hx, hb, hml, hown, hts⟩ hK hE hP hD hS hA hAB (s_X9_bit_0 l B0 adK adV D cy ad f x24 v4_l3 (by omega) _) (va_cwS 2 hts gX9_behind_X9_bit rfl rfl rfl (by decide +kernel) ⟨Nat.le_of_ble_eq_true rfl, Nat.le_of_ble_eq_true rfl⟩) rfl hl.1 rfl (Nat.le_of_ble_eq_true rfl) dX9_behind_19 ⟨Nat.le_of_ble_eq_true rfl, Nat.le_of_ble_eq_true rfl⟩ (fun r g H locs hw hP hD hS => ?_)
        obtain ⟨hrs, rfl⟩ := hw
        obtain ⟨x25, rfl⟩ : ∃ q, q = r := ⟨_, rfl⟩
        rcases hrs with ⟨rfl, h26⟩ | ⟨rfl, h27⟩
        · refine lv_if_eq (tgt := 47) hx hb dX9_behind_22 (by decide) (fun c => absurd c (by decide)) (fun _ => ?_)
          refine lv_iload_n hx hb dX9_behind_25 rfl (lv_at hl 3 rfl) ?_
          refine lv_aload_n hx hb dX9_behind_26 rfl (lv_at hl 2 rfl) ?_
          refine lv_iload_n hx hb dX9_behind_27 rfl (lv_at hl 0 rfl) ?_
          refine tVI (As := [.int v4_l3]) (rest := [.int p1]) (i := 148) ⟨hx, hb, hml, hown, hts⟩ hK hE hP hD hS hA hAB (s_X9_toOf_0 l B0 adK adV D cy ad fr0 c_text m_taped m_size m_faultKind m_faultPlace m_at m_end m_token m_number m_name c_points c_strands c_units c_told c_ruleFrom c_ruleTo c_code c_eWhat c_eSign m_bank m_rb m_codes m_within m_piled m_unitsInRule m_askStrand m_askTied m_thoughtClaim m_thoughtNeed m_thoughtAll c_roundOf m_acts m_undone m_laid m_firstMove m_seens m_time m_waysNow m_fitting f hT v4_l3 (by omega) _) (cwV 1 hts gX9_behind_X9_toOf rfl rfl rfl (by decide +kernel) ⟨Nat.le_of_ble_eq_true rfl, Nat.le_of_ble_eq_true rfl⟩) (by decide) 9 e17 rfl rfl hl.1 rfl (Nat.le_of_ble_eq_true rfl) dX9_behind_28 ⟨Nat.le_of_ble_eq_true rfl, Nat.le_of_ble_eq_true rfl⟩ (fun r g H locs hw hP hD hS => ?_)
          obtain ⟨hrs, rfl⟩ := hw
          obtain ⟨x28, rfl⟩ : ∃ q, q = r := ⟨_, rfl⟩
          have h29 := hrs
          refine tSI (As := [.int p1, .int x28]) (rest := []) ⟨hx, hb, hml, hown, hts⟩ hK hE hP hD hS hA hAB (s_X9_bit_0 l B0 adK adV D cy ad f p1 x28 (by omega) _) (va_cwS 2 hts gX9_behind_X9_bit rfl rfl rfl (by decide +kernel) ⟨Nat.le_of_ble_eq_true rfl, Nat.le_of_ble_eq_true rfl⟩) rfl hl.1 rfl (Nat.le_of_ble_eq_true rfl) dX9_behind_31 ⟨Nat.le_of_ble_eq_true rfl, Nat.le_of_ble_eq_true rfl⟩ (fun r g H locs hw hP hD hS => ?_)
          obtain ⟨hrs, rfl⟩ := hw
          obtain ⟨x30, rfl⟩ : ∃ q, q = r := ⟨_, rfl⟩
          rcases hrs with ⟨rfl, h31⟩ | ⟨rfl, h32⟩
          · refine lv_if_eq (tgt := 47) hx hb dX9_behind_34 (by decide) (fun c => absurd c (by decide)) (fun _ => ?_)
            refine lv_iload_n hx hb dX9_behind_37 rfl (lv_at hl 1 rfl) ?_
            refine lv_iconst (v := 1) hx hb dX9_behind_38 (by decide) ?_
            refine lv_aload_n hx hb dX9_behind_39 rfl (lv_at hl 2 rfl) ?_
            refine lv_iload_n hx hb dX9_behind_40 rfl (lv_at hl 0 rfl) ?_
            refine tVI (As := [.int v4_l3]) (rest := [.int 1, .int v4_l2]) (i := 148) ⟨hx, hb, hml, hown, hts⟩ hK hE hP hD hS hA hAB (s_X9_fromOf_0 l B0 adK adV D cy ad fr0 c_text m_taped m_size m_faultKind m_faultPlace m_at m_end m_token m_number m_name c_points c_strands c_units c_told c_ruleFrom c_ruleTo c_code c_eWhat c_eSign m_bank m_rb m_codes m_within m_piled m_unitsInRule m_askStrand m_askTied m_thoughtClaim m_thoughtNeed m_thoughtAll c_roundOf m_acts m_undone m_laid m_firstMove m_seens m_time m_waysNow m_fitting f hT v4_l3 (by omega) _) (cwV 1 hts gX9_behind_X9_fromOf rfl rfl rfl (by decide +kernel) ⟨Nat.le_of_ble_eq_true rfl, Nat.le_of_ble_eq_true rfl⟩) (by decide) 9 e17 rfl rfl hl.1 rfl (Nat.le_of_ble_eq_true rfl) dX9_behind_41 ⟨Nat.le_of_ble_eq_true rfl, Nat.le_of_ble_eq_true rfl⟩ (fun r g H locs hw hP hD hS => ?_)
            obtain ⟨hrs, rfl⟩ := hw
            obtain ⟨x33, rfl⟩ : ∃ q, q = r := ⟨_, rfl⟩
            have h34 := hrs
            refine lv_ishl hx hb dX9_behind_44 ?_
            refine lv_topi (fun x35 ex35 => ?_)
            have hx35 := r_shl (K := 9) (M := 512) ex35 (by decide) (by decide) (by omega) (by omega)
            refine lv_ior hx hb dX9_behind_45 ?_
            refine lv_topi (fun x36 ex36 => ?_)
            have hx36 := r_or (k := 12) (K := 4096) ex36 (by decide) (by decide) (by omega) (by omega) (by omega) (by omega)
            refine lv_istore_n (lv' := [(2, .int x36), (3, .int v4_l3), (0, .ref (ad 148)), (1, .int p1)]) hx hb dX9_behind_46 rfl hl (by decide) rfl (fun ls hl => ?_)
            exact j47 H locs ls x36 (by omega) (by omega) (by omega) hP hD hS (lv_sub hl [0, 1, 2, 3] rfl)
          · refine lv_if_eq (tgt := 47) hx hb dX9_behind_34 (by decide) (fun _ => ?_) (fun c => absurd (by decide) c)
            exact j47 H locs ls v4_l2 (by omega) (by omega) (by omega) hP hD hS (lv_sub hl [1, 0, 2, 3] rfl)
        · refine lv_if_eq (tgt := 47) hx hb dX9_behind_22 (by decide) (fun _ => ?_) (fun c => absurd (by decide) c)
          exact j47 H locs ls v4_l2 (by omega) (by omega) (by omega) hP hD hS (lv_sub hl [1, 0, 2, 3] rfl)
  refine lv_iload_n hx hb dX9_behind_0 rfl (lv_at hl 1 rfl) ?_
  refine lv_istore_n (lv' := [(2, .int p1), (0, .ref (ad 148)), (1, .int p1)]) hx hb dX9_behind_1 rfl hl (by decide) rfl (fun ls hl => ?_)
  refine lv_iconst (v := 0) hx hb dX9_behind_2 (by decide) ?_
  refine lv_istore_n (lv' := [(3, .int 0), (2, .int p1), (0, .ref (ad 148)), (1, .int p1)]) hx hb dX9_behind_3 rfl hl (by decide) rfl (fun ls hl => ?_)
  have ttl_0 := tl_0
  exact j4 (Int.toNat (13 - (0 : Int32).toInt)) H locs ls (0 : Int32) p1 (by omega) (by omega) (by omega) (by omega) hP hD hS (lv_sub hl [0, 1, 2, 3] rfl)
set_option maxHeartbeats 4000000 in
set_option maxRecDepth 100000 in
theorem s_X9_roots_0 (l : Launch) (B0 : Nat) (adK adV : Nat → Nat) (D : va_G) (cy : Nat → ClassId) (ad : Nat → Nat) (fr0 : Nat → va_E) (c_text : Nat → Int32) (m_taped : Int32) (m_size : Int32) (m_faultKind : Int32) (m_faultPlace : Int32) (m_at : Int32) (m_end : Int32) (m_token : Int32) (m_number : Int32) (m_name : Int64) (c_points : Nat → Int32) (c_strands : Nat → Int32) (c_units : Nat → Int32) (c_told : Nat → Int32) (c_ruleFrom : Nat → Int32) (c_ruleTo : Nat → Int32) (c_code : Nat → Int32) (c_eWhat : Nat → Int32) (c_eSign : Nat → Int32) (m_bank : Int32) (m_rb : Int32) (m_codes : Int32) (m_within : Int32) (m_piled : Int32) (m_unitsInRule : Int32) (m_askStrand : Int32) (m_askTied : Int32) (m_thoughtClaim : Int32) (m_thoughtNeed : Int32) (m_thoughtAll : Int32) (c_roundOf : Nat → Int32) (m_acts : Int32) (m_undone : Int32) (m_laid : Int32) (m_firstMove : Int32) (m_seens : Int32) (m_time : Int32) (m_waysNow : Int32) (m_fitting : Int32) (f : Nat → va_E) (hT : TYm ad cy fr0 c_text m_taped m_size m_faultKind m_faultPlace m_at m_end m_token m_number m_name c_points c_strands c_units c_told c_ruleFrom c_ruleTo c_code c_eWhat c_eSign m_bank m_rb m_codes m_within m_piled m_unitsInRule m_askStrand m_askTied m_thoughtClaim m_thoughtNeed m_thoughtAll c_roundOf m_acts m_undone m_laid m_firstMove m_seens m_time m_waysNow m_fitting f) (p1 : Int32) (sz : Nat) : TtI l yX9_roots wsX9_roots 4 86 [.ref (ad 148), .int p1] B0 adK adV D cy ad f sz (fun (r : Int32) (g : Nat → va_E) => (-1 ≤ r.toInt ∧ r.toInt ≤ 4095) ∧ (f = g)) := by
  refine TtI.of (cc := cX9_roots) (maxL := 4) (ty := .int) (own := RX9) (by decide) rfl (Nat.le_of_ble_eq_true rfl) rfl ?_
  intro p e s m below meth c A ls hx hb hr hml hts hown hlk hK hE hP hD hS hA hAB hl
  have hl : lv_has ls 4 [(0, .ref (ad 148)), (1, .int p1)] := hl
  refine st0 (fun H locs hP hS => ?_) hP hS
  have j16 : ∀ (N : Nat) (H : Heap) (locs : List Loc) (ls : Array Slot) (v16_l3 : Int32) (v16_l2 : Int32), (11 - v16_l3.toInt ≤ (N : Int)) → (0 ≤ v16_l3.toInt ∧ v16_l3.toInt ≤ 10) → (0 ≤ v16_l2.toInt ∧ v16_l2.toInt ≤ 4095) → (0 ≤ p1.toInt ∧ p1.toInt ≤ 9) → (va_P D vwCl (wl ad f) H) → (va_D A (wl ad f)) → (va_S A s.heap H locs) → (lv_has ls 4 [(3, .int v16_l3), (2, .int v16_l2), (0, .ref (ad 148)), (1, .int p1)]) → W p l e (rmO 4 86 0 0) s m ([.ref (ad 148), .int p1] : List Value).toArray below meth c H locs 0 0 (MQ below (va_Qi (fun (r : Int32) (g : Nat → va_E) => (-1 ≤ r.toInt ∧ r.toInt ≤ 4095) ∧ (f = g)) (fun g t => PstT D ad g t) A) ([.ref (ad 148), .int p1] : List Value).toArray s 0 0 A) (F0 m 16 ls []) := by
    intro N
    induction N with
    | zero => intro H locs ls v16_l3 v16_l2 hN hv16_l3 hv16_l2 hv16_l1 hP hD hS hl; exact absurd hN (by omega)
    | succ N ih16 =>
      intro H locs ls v16_l3 v16_l2 hN hv16_l3 hv16_l2 hv16_l1 hP hD hS hl
      refine lv_iload_n hx hb dX9_roots_16 rfl (lv_at hl 0 rfl) ?_
      refine lv_aload_n hx hb dX9_roots_17 rfl (lv_at hl 2 rfl) ?_
      obtain ⟨e16, h1, h2, h3, h4, h5, h6, h7, h8, h9, h10, h11, h12, h13, h14, h15⟩ := (show okX9 ad m_taped m_size m_faultKind m_faultPlace m_at m_end m_token m_number m_name m_bank m_rb m_codes m_within m_piled m_unitsInRule m_askStrand m_askTied m_thoughtClaim m_thoughtNeed m_thoughtAll m_acts m_undone m_laid m_firstMove m_seens m_time m_waysNow m_fitting 148 (f 148) from hT.1 148 (by decide))
      refine tVI (As := []) (rest := [.int v16_l3]) (i := 148) ⟨hx, hb, hml, hown, hts⟩ hK hE hP hD hS hA hAB (s_X9_many_0 l B0 adK adV D cy ad fr0 c_text m_taped m_size m_faultKind m_faultPlace m_at m_end m_token m_number m_name c_points c_strands c_units c_told c_ruleFrom c_ruleTo c_code c_eWhat c_eSign m_bank m_rb m_codes m_within m_piled m_unitsInRule m_askStrand m_askTied m_thoughtClaim m_thoughtNeed m_thoughtAll c_roundOf m_acts m_undone m_laid m_firstMove m_seens m_time m_waysNow m_fitting f hT _) (cwV 0 hts gX9_roots_X9_many rfl rfl rfl (by decide +kernel) ⟨Nat.le_of_ble_eq_true rfl, Nat.le_of_ble_eq_true rfl⟩) (by decide) 9 e16 rfl rfl hl.1 rfl (Nat.le_of_ble_eq_true rfl) dX9_roots_18 ⟨Nat.le_of_ble_eq_true rfl, Nat.le_of_ble_eq_true rfl⟩ (fun r g H locs hw hP hD hS => ?_)
      obtain ⟨hrs, rfl⟩ := hw
      obtain ⟨x17, rfl⟩ : ∃ q, q = r := ⟨_, rfl⟩
      have h18 := hrs
      refine lv_icmp_ge (tgt := 36) hx hb dX9_roots_21 (by decide) (fun c19 => ?_) (fun c19 => ?_)
      · have kc19 := c_le c19
        refine lv_iload_n hx hb dX9_roots_36 rfl (lv_at hl 1 rfl) ?_
        refine lv_aload_n hx hb dX9_roots_37 rfl (lv_at hl 2 rfl) ?_
        refine tVI (As := []) (rest := [.int v16_l2]) (i := 148) ⟨hx, hb, hml, hown, hts⟩ hK hE hP hD hS hA hAB (s_X9_facts_0 l B0 adK adV D cy ad fr0 c_text m_taped m_size m_faultKind m_faultPlace m_at m_end m_token m_number m_name c_points c_strands c_units c_told c_ruleFrom c_ruleTo c_code c_eWhat c_eSign m_bank m_rb m_codes m_within m_piled m_unitsInRule m_askStrand m_askTied m_thoughtClaim m_thoughtNeed m_thoughtAll c_roundOf m_acts m_undone m_laid m_firstMove m_seens m_time m_waysNow m_fitting f hT _) (cwV 0 hts gX9_roots_X9_facts rfl rfl rfl (by decide +kernel) ⟨Nat.le_of_ble_eq_true rfl, Nat.le_of_ble_eq_true rfl⟩) (by decide) 9 e16 rfl rfl hl.1 rfl (Nat.le_of_ble_eq_true rfl) dX9_roots_38 ⟨Nat.le_of_ble_eq_true rfl, Nat.le_of_ble_eq_true rfl⟩ (fun r g H locs hw hP hD hS => ?_)
        obtain ⟨hrs, rfl⟩ := hw
        obtain ⟨x20, rfl⟩ : ∃ q, q = r := ⟨_, rfl⟩
        have h21 := hrs
        refine lv_iand hx hb dX9_roots_41 ?_
        refine lv_topi (fun x22 ex22 => ?_)
        have hx22 := r_andr ex22 (by omega)
        exact tI hx hb hr hlk rfl hP hS ⟨(by omega), rfl⟩ dX9_roots_42
      · have kc19 := c_nle c19
        refine lv_aload_n hx hb dX9_roots_24 rfl (lv_at hl 2 rfl) ?_
        refine lv_iload_n hx hb dX9_roots_25 rfl (lv_at hl 1 rfl) ?_
        refine tVI (As := [.int v16_l2]) (rest := []) (i := 148) ⟨hx, hb, hml, hown, hts⟩ hK hE hP hD hS hA hAB (s_X9_behind_0 l B0 adK adV D cy ad fr0 c_text m_taped m_size m_faultKind m_faultPlace m_at m_end m_token m_number m_name c_points c_strands c_units c_told c_ruleFrom c_ruleTo c_code c_eWhat c_eSign m_bank m_rb m_codes m_within m_piled m_unitsInRule m_askStrand m_askTied m_thoughtClaim m_thoughtNeed m_thoughtAll c_roundOf m_acts m_undone m_laid m_firstMove m_seens m_time m_waysNow m_fitting f hT v16_l2 (by omega) _) (cwV 1 hts gX9_roots_X9_behind rfl rfl rfl (by decide +kernel) ⟨Nat.le_of_ble_eq_true rfl, Nat.le_of_ble_eq_true rfl⟩) (by decide) 9 e16 rfl rfl hl.1 rfl (Nat.le_of_ble_eq_true rfl) dX9_roots_26 ⟨Nat.le_of_ble_eq_true rfl, Nat.le_of_ble_eq_true rfl⟩ (fun r g H locs hw hP hD hS => ?_)
        obtain ⟨hrs, rfl⟩ := hw
        obtain ⟨x23, rfl⟩ : ∃ q, q = r := ⟨_, rfl⟩
        have h24 := hrs
        refine lv_istore_n (lv' := [(2, .int x23), (3, .int v16_l3), (0, .ref (ad 148)), (1, .int p1)]) hx hb dX9_roots_29 rfl hl (by decide) rfl (fun ls hl => ?_)
        obtain ⟨x25, ex25⟩ : ∃ q : Int32, q = v16_l3 + Int32.ofInt (1) := ⟨_, rfl⟩
        refine lv_iinc (v := x25) (lv' := [(3, .int x25), (2, .int x23), (0, .ref (ad 148)), (1, .int p1)]) hx hb dX9_roots_30 hl (k := 1) rfl ex25.symm (by decide) rfl (fun ls hl => ?_)
        have hx25 := r_inc ex25 (by decide) (by omega) (by omega)
        refine lv_goto (tgt := 16) hx hb dX9_roots_33 (by decide) ?_
        exact ih16 H locs ls x25 x23 (by omega) (by omega) (by omega) (by omega) hP hD hS (lv_sub hl [0, 1, 2, 3] rfl)
  refine lv_aload_n hx hb dX9_roots_0 rfl (lv_at hl 0 rfl) ?_
  refine lv_iload_n hx hb dX9_roots_1 rfl (lv_at hl 1 rfl) ?_
  obtain ⟨e41, h26, h27, h28, h29, h30, h31, h32, h33, h34, h35, h36, h37, h38, h39, h40⟩ := (show okX9 ad m_taped m_size m_faultKind m_faultPlace m_at m_end m_token m_number m_name m_bank m_rb m_codes m_within m_piled m_unitsInRule m_askStrand m_askTied m_thoughtClaim m_thoughtNeed m_thoughtAll m_acts m_undone m_laid m_firstMove m_seens m_time m_waysNow m_fitting 148 (f 148) from hT.1 148 (by decide))
  refine tVI (As := [.int p1]) (rest := []) (i := 148) ⟨hx, hb, hml, hown, hts⟩ hK hE hP hD hS hA hAB (s_X9_isClaim_0 l B0 adK adV D cy ad fr0 c_text m_taped m_size m_faultKind m_faultPlace m_at m_end m_token m_number m_name c_points c_strands c_units c_told c_ruleFrom c_ruleTo c_code c_eWhat c_eSign m_bank m_rb m_codes m_within m_piled m_unitsInRule m_askStrand m_askTied m_thoughtClaim m_thoughtNeed m_thoughtAll c_roundOf m_acts m_undone m_laid m_firstMove m_seens m_time m_waysNow m_fitting f hT p1 _) (cwV 1 hts gX9_roots_X9_isClaim rfl rfl rfl (by decide +kernel) ⟨Nat.le_of_ble_eq_true rfl, Nat.le_of_ble_eq_true rfl⟩) (by decide) 9 e41 rfl rfl hl.1 rfl (Nat.le_of_ble_eq_true rfl) dX9_roots_2 ⟨Nat.le_of_ble_eq_true rfl, Nat.le_of_ble_eq_true rfl⟩ (fun r g H locs hw hP hD hS => ?_)
  obtain ⟨hrs, rfl⟩ := hw
  obtain ⟨x42, rfl⟩ : ∃ q, q = r := ⟨_, rfl⟩
  rcases hrs with ⟨rfl, h43, h44⟩ | rfl
  · refine lv_if_ne (tgt := 10) hx hb dX9_roots_5 (by decide) (fun _ => ?_) (fun c => absurd c (by decide))
    refine lv_iconst (v := 1) hx hb dX9_roots_10 (by decide) ?_
    refine lv_iload_n hx hb dX9_roots_11 rfl (lv_at hl 1 rfl) ?_
    refine lv_ishl hx hb dX9_roots_12 ?_
    refine lv_topi (fun x45 ex45 => ?_)
    have hx45 := r_shl (K := 9) (M := 512) ex45 (by decide) (by decide) (by omega) (by omega)
    refine lv_istore_n (lv' := [(2, .int x45), (0, .ref (ad 148)), (1, .int p1)]) hx hb dX9_roots_13 rfl hl (by decide) rfl (fun ls hl => ?_)
    refine lv_iconst (v := 0) hx hb dX9_roots_14 (by decide) ?_
    refine lv_istore_n (lv' := [(3, .int 0), (2, .int x45), (0, .ref (ad 148)), (1, .int p1)]) hx hb dX9_roots_15 rfl hl (by decide) rfl (fun ls hl => ?_)
    have ttl_0 := tl_0
    exact j16 (Int.toNat (11 - (0 : Int32).toInt)) H locs ls (0 : Int32) x45 (by omega) (by omega) (by omega) (by omega) hP hD hS (lv_sub hl [0, 1, 2, 3] rfl)
  · refine lv_if_ne (tgt := 10) hx hb dX9_roots_5 (by decide) (fun c => absurd (by decide) c) (fun _ => ?_)
    refine lv_iconst (v := (-1)) hx hb dX9_roots_8 (by decide) ?_
    have ttl_m1 := tl_m1
    exact tI hx hb hr hlk rfl hP hS ⟨(by omega), rfl⟩ dX9_roots_9
set_option maxHeartbeats 4000000 in
set_option maxRecDepth 100000 in
theorem s_X9_law_0 (l : Launch) (B0 : Nat) (adK adV : Nat → Nat) (D : va_G) (cy : Nat → ClassId) (ad : Nat → Nat) (fr0 : Nat → va_E) (c_text : Nat → Int32) (m_taped : Int32) (m_size : Int32) (m_faultKind : Int32) (m_faultPlace : Int32) (m_at : Int32) (m_end : Int32) (m_token : Int32) (m_number : Int32) (m_name : Int64) (c_points : Nat → Int32) (c_strands : Nat → Int32) (c_units : Nat → Int32) (c_told : Nat → Int32) (c_ruleFrom : Nat → Int32) (c_ruleTo : Nat → Int32) (c_code : Nat → Int32) (c_eWhat : Nat → Int32) (c_eSign : Nat → Int32) (m_bank : Int32) (m_rb : Int32) (m_codes : Int32) (m_within : Int32) (m_piled : Int32) (m_unitsInRule : Int32) (m_askStrand : Int32) (m_askTied : Int32) (m_thoughtClaim : Int32) (m_thoughtNeed : Int32) (m_thoughtAll : Int32) (c_roundOf : Nat → Int32) (m_acts : Int32) (m_undone : Int32) (m_laid : Int32) (m_firstMove : Int32) (m_seens : Int32) (m_time : Int32) (m_waysNow : Int32) (m_fitting : Int32) (f : Nat → va_E) (hT : TYm ad cy fr0 c_text m_taped m_size m_faultKind m_faultPlace m_at m_end m_token m_number m_name c_points c_strands c_units c_told c_ruleFrom c_ruleTo c_code c_eWhat c_eSign m_bank m_rb m_codes m_within m_piled m_unitsInRule m_askStrand m_askTied m_thoughtClaim m_thoughtNeed m_thoughtAll c_roundOf m_acts m_undone m_laid m_firstMove m_seens m_time m_waysNow m_fitting f) (p1 : Int32) (hCV : CVp c_told c_ruleFrom c_ruleTo c_code m_bank) (sz : Nat) : TtI l yX9_law wsX9_law 8 178 [.ref (ad 148), .int p1] B0 adK adV D cy ad f sz (fun (r : Int32) (g : Nat → va_E) => (-1 ≤ r.toInt ∧ r.toInt ≤ 32) ∧ (∃ (m_askStrand' : Int32) (m_askTied' : Int32) (m_thoughtAll' : Int32) (c_roundOf' : Nat → Int32), TYm ad cy fr0 c_text m_taped m_size m_faultKind m_faultPlace m_at m_end m_token m_number m_name c_points c_strands c_units c_told c_ruleFrom c_ruleTo c_code c_eWhat c_eSign m_bank m_rb m_codes m_within m_piled m_unitsInRule m_askStrand' m_askTied' m_thoughtClaim m_thoughtNeed m_thoughtAll' c_roundOf' m_acts m_undone m_laid m_firstMove m_seens m_time m_waysNow m_fitting g)) := by
  refine TtI.of (cc := cX9_law) (maxL := 3) (ty := .int) (own := RX9) (by decide) rfl (Nat.le_of_ble_eq_true rfl) rfl ?_
  intro p e s m below meth c A ls hx hb hr hml hts hown hlk hK hE hP hD hS hA hAB hl
  have hl : lv_has ls 3 [(0, .ref (ad 148)), (1, .int p1)] := hl
  refine st0 (fun H locs hP hS => ?_) hP hS
  refine lv_iload_n hx hb dX9_law_0 rfl (lv_at hl 1 rfl) ?_
  refine lv_iconst (v := 0) hx hb dX9_law_1 (by decide) ?_
  refine lv_bipush (v := 99) hx hb dX9_law_2 (by decide) ?_
  have ttl_0 := tl_0
  have ttl_99 := tl_99
  refine tSI (As := [.int p1, .int 0, .int 99]) (rest := []) ⟨hx, hb, hml, hown, hts⟩ hK hE hP hD hS hA hAB (s_X9_isIn_0 l B0 adK adV D cy ad f p1 (0 : Int32) (by omega) (99 : Int32) (by omega) _) (va_cwS 3 hts gX9_law_X9_isIn rfl rfl rfl (by decide +kernel) ⟨Nat.le_of_ble_eq_true rfl, Nat.le_of_ble_eq_true rfl⟩) rfl hl.1 rfl (Nat.le_of_ble_eq_true rfl) dX9_law_4 ⟨Nat.le_of_ble_eq_true rfl, Nat.le_of_ble_eq_true rfl⟩ (fun r g H locs hw hP hD hS => ?_)
  obtain ⟨hrs, rfl⟩ := hw
  obtain ⟨x1, rfl⟩ : ∃ q, q = r := ⟨_, rfl⟩
  rcases hrs with ⟨rfl, h2, h3⟩ | rfl
  · refine lv_if_ne (tgt := 12) hx hb dX9_law_7 (by decide) (fun _ => ?_) (fun c => absurd c (by decide))
    refine lv_aload_n hx hb dX9_law_12 rfl (lv_at hl 0 rfl) ?_
    refine lv_iload_n hx hb dX9_law_13 rfl (lv_at hl 1 rfl) ?_
    obtain ⟨e19, h4, h5, h6, h7, h8, h9, h10, h11, h12, h13, h14, h15, h16, h17, h18⟩ := (show okX9 ad m_taped m_size m_faultKind m_faultPlace m_at m_end m_token m_number m_name m_bank m_rb m_codes m_within m_piled m_unitsInRule m_askStrand m_askTied m_thoughtClaim m_thoughtNeed m_thoughtAll m_acts m_undone m_laid m_firstMove m_seens m_time m_waysNow m_fitting 148 (f 148) from hT.1 148 (by decide))
    refine va_put (D := D) (cl := vwCl) (ci := 9) (v := .int p1) (ty := tyX9 41) (C := RX9) (T := TX9) (N := 64) hx hb hts in_X9_law_X9 tyX9 tyX9_ok nmX9 hown hK hP hD hS 148 (wl_at (by decide) e19) rfl 41 (by decide) (hts (.fieldLink RX9 85 "EightReasonsModel" "thoughtAll" "I") (List.mem_of_getElem? (i := 1) rfl)) (fun _ h9 => h9) rfl (tyX9_ok 41 (by decide)) rfl rfl (Nat.le_of_ble_eq_true rfl) dX9_law_14 (fun H locs hP hD hS => ?_)
    obtain ⟨f, hT, hP, hD, e20, hj21⟩ := stU (by decide) (TYm.p148 hT (show OKm ad cy c_text m_taped m_size m_faultKind m_faultPlace m_at m_end m_token m_number m_name c_points c_strands c_units c_told c_ruleFrom c_ruleTo c_code c_eWhat c_eSign m_bank m_rb m_codes m_within m_piled m_unitsInRule m_askStrand m_askTied m_thoughtClaim m_thoughtNeed p1 c_roundOf m_acts m_undone m_laid m_firstMove m_seens m_time m_waysNow m_fitting 148 _ from (show okX9 ad m_taped m_size m_faultKind m_faultPlace m_at m_end m_token m_number m_name m_bank m_rb m_codes m_within m_piled m_unitsInRule m_askStrand m_askTied m_thoughtClaim m_thoughtNeed p1 m_acts m_undone m_laid m_firstMove m_seens m_time m_waysNow m_fitting 148 _ from ⟨rfl, by omega, by omega, by omega, by omega, by omega, by omega, by omega, by omega, by omega, by omega, by omega, by omega, by omega, by omega, by omega⟩))) hP hD
    refine lv_aload_n hx hb dX9_law_17 rfl (lv_at hl 0 rfl) ?_
    refine tVI (As := []) (rest := []) (i := 148) ⟨hx, hb, hml, hown, hts⟩ hK hE hP hD hS hA hAB (s_X9_claimsNow_0 l B0 adK adV D cy ad fr0 c_text m_taped m_size m_faultKind m_faultPlace m_at m_end m_token m_number m_name c_points c_strands c_units c_told c_ruleFrom c_ruleTo c_code c_eWhat c_eSign m_bank m_rb m_codes m_within m_piled m_unitsInRule m_askStrand m_askTied m_thoughtClaim m_thoughtNeed p1 c_roundOf m_acts m_undone m_laid m_firstMove m_seens m_time m_waysNow m_fitting f hT hCV _) (cwV 0 hts gX9_law_X9_claimsNow rfl rfl rfl (by decide +kernel) ⟨Nat.le_of_ble_eq_true rfl, Nat.le_of_ble_eq_true rfl⟩) (by decide) 9 e20 rfl rfl hl.1 rfl (Nat.le_of_ble_eq_true rfl) dX9_law_18 ⟨Nat.le_of_ble_eq_true rfl, Nat.le_of_ble_eq_true rfl⟩ (fun r f H locs hw hP hD hS => ?_)
    obtain ⟨hrs, x22, x23, y24, hT, h25⟩ := hw
    obtain ⟨x26, rfl⟩ : ∃ q, q = r := ⟨_, rfl⟩
    have h27 := hrs
    refine lv_istore_n (lv' := [(2, .int x26), (0, .ref (ad 148)), (1, .int p1)]) hx hb dX9_law_21 rfl hl (by decide) rfl (fun ls hl => ?_)
    refine lv_aload_n hx hb dX9_law_22 rfl (lv_at hl 1 rfl) ?_
    refine lv_iconst (v := (-1)) hx hb dX9_law_23 (by decide) ?_
    obtain ⟨e43, h28, h29, h30, h31, h32, h33, h34, h35, h36, h37, h38, h39, h40, h41, h42⟩ := (show okX9 ad m_taped m_size m_faultKind m_faultPlace m_at m_end m_token m_number m_name m_bank m_rb m_codes m_within m_piled m_unitsInRule x22 x23 m_thoughtClaim m_thoughtNeed p1 m_acts m_undone m_laid m_firstMove m_seens m_time m_waysNow m_fitting 148 (f 148) from hT.1 148 (by decide))
    refine va_put (D := D) (cl := vwCl) (ci := 9) (v := .int (-1)) (ty := tyX9 41) (C := RX9) (T := TX9) (N := 64) hx hb hts in_X9_law_X9 tyX9 tyX9_ok nmX9 hown hK hP hD hS 148 (wl_at (by decide) e43) rfl 41 (by decide) (hts (.fieldLink RX9 85 "EightReasonsModel" "thoughtAll" "I") (List.mem_of_getElem? (i := 1) rfl)) (fun _ h9 => h9) rfl (tyX9_ok 41 (by decide)) rfl rfl (Nat.le_of_ble_eq_true rfl) dX9_law_24 (fun H locs hP hD hS => ?_)
    obtain ⟨f, hT, hP, hD, e44, hj45⟩ := stU (by decide) (TYm.p148 hT (show OKm ad cy c_text m_taped m_size m_faultKind m_faultPlace m_at m_end m_token m_number m_name c_points c_strands c_units c_told c_ruleFrom c_ruleTo c_code c_eWhat c_eSign m_bank m_rb m_codes m_within m_piled m_unitsInRule x22 x23 m_thoughtClaim m_thoughtNeed (-1) y24 m_acts m_undone m_laid m_firstMove m_seens m_time m_waysNow m_fitting 148 _ from (show okX9 ad m_taped m_size m_faultKind m_faultPlace m_at m_end m_token m_number m_name m_bank m_rb m_codes m_within m_piled m_unitsInRule x22 x23 m_thoughtClaim m_thoughtNeed (-1) m_acts m_undone m_laid m_firstMove m_seens m_time m_waysNow m_fitting 148 _ from ⟨rfl, by omega, by omega, by omega, by omega, by omega, by omega, by omega, by omega, by omega, by omega, by omega, by omega, by omega, by omega, by omega⟩))) hP hD
    refine lv_iload_n hx hb dX9_law_27 rfl (lv_at hl 0 rfl) ?_
    have ttl_m1 := tl_m1
    exact tI hx hb hr hlk rfl hP hS ⟨(by omega), ⟨x22, x23, ((-1) : Int32), y24, hT⟩⟩ dX9_law_28
  · refine lv_if_ne (tgt := 12) hx hb dX9_law_7 (by decide) (fun c => absurd (by decide) c) (fun _ => ?_)
    refine lv_iconst (v := (-1)) hx hb dX9_law_10 (by decide) ?_
    have ttl_m1 := tl_m1
    exact tI hx hb hr hlk rfl hP hS ⟨(by omega), ⟨m_askStrand, m_askTied, m_thoughtAll, c_roundOf, hT⟩⟩ dX9_law_11
set_option maxHeartbeats 4000000 in
set_option maxRecDepth 100000 in
theorem s_X9_worth_0 (l : Launch) (B0 : Nat) (adK adV : Nat → Nat) (D : va_G) (cy : Nat → ClassId) (ad : Nat → Nat) (fr0 : Nat → va_E) (c_text : Nat → Int32) (m_taped : Int32) (m_size : Int32) (m_faultKind : Int32) (m_faultPlace : Int32) (m_at : Int32) (m_end : Int32) (m_token : Int32) (m_number : Int32) (m_name : Int64) (c_points : Nat → Int32) (c_strands : Nat → Int32) (c_units : Nat → Int32) (c_told : Nat → Int32) (c_ruleFrom : Nat → Int32) (c_ruleTo : Nat → Int32) (c_code : Nat → Int32) (c_eWhat : Nat → Int32) (c_eSign : Nat → Int32) (m_bank : Int32) (m_rb : Int32) (m_codes : Int32) (m_within : Int32) (m_piled : Int32) (m_unitsInRule : Int32) (m_askStrand : Int32) (m_askTied : Int32) (m_thoughtClaim : Int32) (m_thoughtNeed : Int32) (m_thoughtAll : Int32) (c_roundOf : Nat → Int32) (m_acts : Int32) (m_undone : Int32) (m_laid : Int32) (m_firstMove : Int32) (m_seens : Int32) (m_time : Int32) (m_waysNow : Int32) (m_fitting : Int32) (f : Nat → va_E) (hT : TYm ad cy fr0 c_text m_taped m_size m_faultKind m_faultPlace m_at m_end m_token m_number m_name c_points c_strands c_units c_told c_ruleFrom c_ruleTo c_code c_eWhat c_eSign m_bank m_rb m_codes m_within m_piled m_unitsInRule m_askStrand m_askTied m_thoughtClaim m_thoughtNeed m_thoughtAll c_roundOf m_acts m_undone m_laid m_firstMove m_seens m_time m_waysNow m_fitting f) (p1 : Int32) (hCV : CVp c_told c_ruleFrom c_ruleTo c_code m_bank) (sz : Nat) : TtI l yX9_worth wsX9_worth 7 158 [.ref (ad 148), .int p1] B0 adK adV D cy ad f sz (fun (r : Int32) (g : Nat → va_E) => (-1 ≤ r.toInt ∧ r.toInt ≤ 99) ∧ (∃ (m_askStrand' : Int32) (m_askTied' : Int32) (m_thoughtClaim' : Int32) (m_thoughtNeed' : Int32) (c_roundOf' : Nat → Int32), TYm ad cy fr0 c_text m_taped m_size m_faultKind m_faultPlace m_at m_end m_token m_number m_name c_points c_strands c_units c_told c_ruleFrom c_ruleTo c_code c_eWhat c_eSign m_bank m_rb m_codes m_within m_piled m_unitsInRule m_askStrand' m_askTied' m_thoughtClaim' m_thoughtNeed' m_thoughtAll c_roundOf' m_acts m_undone m_laid m_firstMove m_seens m_time m_waysNow m_fitting g)) := by
  refine TtI.of (cc := cX9_worth) (maxL := 4) (ty := .int) (own := RX9) (by decide) rfl (Nat.le_of_ble_eq_true rfl) rfl ?_
  intro p e s m below meth c A ls hx hb hr hml hts hown hlk hK hE hP hD hS hA hAB hl
  have hl : lv_has ls 4 [(0, .ref (ad 148)), (1, .int p1)] := hl
  refine st0 (fun H locs hP hS => ?_) hP hS
  have j19 : ∀ (N : Nat) (f : Nat → va_E) (H : Heap) (locs : List Loc) (ls : Array Slot) (v19_l3 : Int32) (v19_l2 : Int32) (v19_p_m_askStrand : Int32) (v19_p_m_askTied : Int32) (v19_p_m_thoughtNeed : Int32) (v19_p_c_roundOf : Nat → Int32), (101 - v19_l3.toInt ≤ (N : Int)) → (0 ≤ v19_l3.toInt ∧ v19_l3.toInt ≤ 100) → (-1 ≤ v19_l2.toInt ∧ v19_l2.toInt ≤ 99) → (0 ≤ p1.toInt ∧ p1.toInt ≤ 9) → (0 ≤ p1.toInt ∧ p1.toInt ≤ 9) → (TYm ad cy fr0 c_text m_taped m_size m_faultKind m_faultPlace m_at m_end m_token m_number m_name c_points c_strands c_units c_told c_ruleFrom c_ruleTo c_code c_eWhat c_eSign m_bank m_rb m_codes m_within m_piled m_unitsInRule v19_p_m_askStrand v19_p_m_askTied p1 v19_p_m_thoughtNeed m_thoughtAll v19_p_c_roundOf m_acts m_undone m_laid m_firstMove m_seens m_time m_waysNow m_fitting f) → (va_P D vwCl (wl ad f) H) → (va_D A (wl ad f)) → (va_S A s.heap H locs) → (lv_has ls 4 [(3, .int v19_l3), (2, .int v19_l2), (0, .ref (ad 148)), (1, .int p1)]) → W p l e (rmO 7 158 0 0) s m ([.ref (ad 148), .int p1] : List Value).toArray below meth c H locs 0 0 (MQ below (va_Qi (fun (r : Int32) (g : Nat → va_E) => (-1 ≤ r.toInt ∧ r.toInt ≤ 99) ∧ (∃ (m_askStrand' : Int32) (m_askTied' : Int32) (m_thoughtClaim' : Int32) (m_thoughtNeed' : Int32) (c_roundOf' : Nat → Int32), TYm ad cy fr0 c_text m_taped m_size m_faultKind m_faultPlace m_at m_end m_token m_number m_name c_points c_strands c_units c_told c_ruleFrom c_ruleTo c_code c_eWhat c_eSign m_bank m_rb m_codes m_within m_piled m_unitsInRule m_askStrand' m_askTied' m_thoughtClaim' m_thoughtNeed' m_thoughtAll c_roundOf' m_acts m_undone m_laid m_firstMove m_seens m_time m_waysNow m_fitting g)) (fun g t => PstT D ad g t) A) ([.ref (ad 148), .int p1] : List Value).toArray s 0 0 A) (F0 m 19 ls []) := by
    intro N
    induction N with
    | zero => intro f H locs ls v19_l3 v19_l2 v19_p_m_askStrand v19_p_m_askTied v19_p_m_thoughtNeed v19_p_c_roundOf hN hv19_l3 hv19_l2 hv19_l1 hv19_p_m_thoughtClaim hT hP hD hS hl; exact absurd hN (by omega)
    | succ N ih19 =>
      intro f H locs ls v19_l3 v19_l2 v19_p_m_askStrand v19_p_m_askTied v19_p_m_thoughtNeed v19_p_c_roundOf hN hv19_l3 hv19_l2 hv19_l1 hv19_p_m_thoughtClaim hT hP hD hS hl
      have j43 : ∀ (f : Nat → va_E) (H : Heap) (locs : List Loc) (ls : Array Slot) (v43_l2 : Int32) (v43_p_m_askStrand : Int32) (v43_p_m_askTied : Int32) (v43_p_c_roundOf : Nat → Int32), (-1 ≤ v43_l2.toInt ∧ v43_l2.toInt ≤ 99) → (0 ≤ v19_l3.toInt ∧ v19_l3.toInt ≤ 99) → (0 ≤ p1.toInt ∧ p1.toInt ≤ 9) → (0 ≤ v43_p_m_askTied.toInt ∧ v43_p_m_askTied.toInt ≤ 4095) → (0 ≤ p1.toInt ∧ p1.toInt ≤ 9) → (0 ≤ v19_l3.toInt ∧ v19_l3.toInt ≤ 99) → (TYm ad cy fr0 c_text m_taped m_size m_faultKind m_faultPlace m_at m_end m_token m_number m_name c_points c_strands c_units c_told c_ruleFrom c_ruleTo c_code c_eWhat c_eSign m_bank m_rb m_codes m_within m_piled m_unitsInRule v43_p_m_askStrand v43_p_m_askTied p1 v19_l3 m_thoughtAll v43_p_c_roundOf m_acts m_undone m_laid m_firstMove m_seens m_time m_waysNow m_fitting f) → (va_P D vwCl (wl ad f) H) → (va_D A (wl ad f)) → (va_S A s.heap H locs) → (lv_has ls 4 [(2, .int v43_l2), (3, .int v19_l3), (0, .ref (ad 148)), (1, .int p1)]) → W p l e (rmO 7 158 0 0) s m ([.ref (ad 148), .int p1] : List Value).toArray below meth c H locs 0 0 (MQ below (va_Qi (fun (r : Int32) (g : Nat → va_E) => (-1 ≤ r.toInt ∧ r.toInt ≤ 99) ∧ (∃ (m_askStrand' : Int32) (m_askTied' : Int32) (m_thoughtClaim' : Int32) (m_thoughtNeed' : Int32) (c_roundOf' : Nat → Int32), TYm ad cy fr0 c_text m_taped m_size m_faultKind m_faultPlace m_at m_end m_token m_number m_name c_points c_strands c_units c_told c_ruleFrom c_ruleTo c_code c_eWhat c_eSign m_bank m_rb m_codes m_within m_piled m_unitsInRule m_askStrand' m_askTied' m_thoughtClaim' m_thoughtNeed' m_thoughtAll c_roundOf' m_acts m_undone m_laid m_firstMove m_seens m_time m_waysNow m_fitting g)) (fun g t => PstT D ad g t) A) ([.ref (ad 148), .int p1] : List Value).toArray s 0 0 A) (F0 m 43 ls []) := by
        intro f H locs ls v43_l2 v43_p_m_askStrand v43_p_m_askTied v43_p_c_roundOf hv43_l2 hv43_l3 hv43_l1 hv43_p_m_askTied hv43_p_m_thoughtClaim hv43_p_m_thoughtNeed hT hP hD hS hl
        obtain ⟨x1, ex1⟩ : ∃ q : Int32, q = v19_l3 + Int32.ofInt (1) := ⟨_, rfl⟩
        refine lv_iinc (v := x1) (lv' := [(3, .int x1), (2, .int v43_l2), (0, .ref (ad 148)), (1, .int p1)]) hx hb dX9_worth_43 hl (k := 1) rfl ex1.symm (by decide) rfl (fun ls hl => ?_)
        have hx1 := r_inc ex1 (by decide) (by omega) (by omega)
        refine lv_goto (tgt := 19) hx hb dX9_worth_46 (by decide) ?_
        exact ih19 f H locs ls x1 v43_l2 v43_p_m_askStrand v43_p_m_askTied v19_l3 v43_p_c_roundOf (by omega) (by omega) (by omega) (by omega) (by omega) hT hP hD hS (lv_sub hl [0, 1, 2, 3] rfl)
      refine lv_iload_n hx hb dX9_worth_19 rfl (lv_at hl 0 rfl) ?_
      refine lv_bipush (v := 99) hx hb dX9_worth_20 (by decide) ?_
      have ttl_99 := tl_99
      refine lv_icmp_gt (tgt := 49) hx hb dX9_worth_22 (by decide) (fun c2 => ?_) (fun c2 => ?_)
      · have kc2 := c_lt c2
        refine lv_aload_n hx hb dX9_worth_49 rfl (lv_at hl 2 rfl) ?_
        refine lv_iconst (v := (-1)) hx hb dX9_worth_50 (by decide) ?_
        obtain ⟨e18, h3, h4, h5, h6, h7, h8, h9, h10, h11, h12, h13, h14, h15, h16, h17⟩ := (show okX9 ad m_taped m_size m_faultKind m_faultPlace m_at m_end m_token m_number m_name m_bank m_rb m_codes m_within m_piled m_unitsInRule v19_p_m_askStrand v19_p_m_askTied p1 v19_p_m_thoughtNeed m_thoughtAll m_acts m_undone m_laid m_firstMove m_seens m_time m_waysNow m_fitting 148 (f 148) from hT.1 148 (by decide))
        refine va_put (D := D) (cl := vwCl) (ci := 9) (v := .int (-1)) (ty := tyX9 39) (C := RX9) (T := TX9) (N := 64) hx hb hts in_X9_worth_X9 tyX9 tyX9_ok nmX9 hown hK hP hD hS 148 (wl_at (by decide) e18) rfl 39 (by decide) (hts (.fieldLink RX9 82 "EightReasonsModel" "thoughtClaim" "I") (List.mem_of_getElem? (i := 1) rfl)) (fun _ h9 => h9) rfl (tyX9_ok 39 (by decide)) rfl rfl (Nat.le_of_ble_eq_true rfl) dX9_worth_51 (fun H locs hP hD hS => ?_)
        obtain ⟨f, hT, hP, hD, e19, hj20⟩ := stU (by decide) (TYm.p148 hT (show OKm ad cy c_text m_taped m_size m_faultKind m_faultPlace m_at m_end m_token m_number m_name c_points c_strands c_units c_told c_ruleFrom c_ruleTo c_code c_eWhat c_eSign m_bank m_rb m_codes m_within m_piled m_unitsInRule v19_p_m_askStrand v19_p_m_askTied (-1) v19_p_m_thoughtNeed m_thoughtAll v19_p_c_roundOf m_acts m_undone m_laid m_firstMove m_seens m_time m_waysNow m_fitting 148 _ from (show okX9 ad m_taped m_size m_faultKind m_faultPlace m_at m_end m_token m_number m_name m_bank m_rb m_codes m_within m_piled m_unitsInRule v19_p_m_askStrand v19_p_m_askTied (-1) v19_p_m_thoughtNeed m_thoughtAll m_acts m_undone m_laid m_firstMove m_seens m_time m_waysNow m_fitting 148 _ from ⟨rfl, by omega, by omega, by omega, by omega, by omega, by omega, by omega, by omega, by omega, by omega, by omega, by omega, by omega, by omega, by omega⟩))) hP hD
        refine lv_iload_n hx hb dX9_worth_54 rfl (lv_at hl 1 rfl) ?_
        have ttl_m1 := tl_m1
        exact tI hx hb hr hlk rfl hP hS ⟨(by omega), ⟨v19_p_m_askStrand, v19_p_m_askTied, ((-1) : Int32), v19_p_m_thoughtNeed, v19_p_c_roundOf, hT⟩⟩ dX9_worth_55
      · have kc2 := c_nlt c2
        refine lv_aload_n hx hb dX9_worth_25 rfl (lv_at hl 2 rfl) ?_
        refine lv_iload_n hx hb dX9_worth_26 rfl (lv_at hl 0 rfl) ?_
        obtain ⟨e36, h21, h22, h23, h24, h25, h26, h27, h28, h29, h30, h31, h32, h33, h34, h35⟩ := (show okX9 ad m_taped m_size m_faultKind m_faultPlace m_at m_end m_token m_number m_name m_bank m_rb m_codes m_within m_piled m_unitsInRule v19_p_m_askStrand v19_p_m_askTied p1 v19_p_m_thoughtNeed m_thoughtAll m_acts m_undone m_laid m_firstMove m_seens m_time m_waysNow m_fitting 148 (f 148) from hT.1 148 (by decide))
        refine va_put (D := D) (cl := vwCl) (ci := 9) (v := .int v19_l3) (ty := tyX9 40) (C := RX9) (T := TX9) (N := 64) hx hb hts in_X9_worth_X9 tyX9 tyX9_ok nmX9 hown hK hP hD hS 148 (wl_at (by decide) e36) rfl 40 (by decide) (hts (.fieldLink RX9 356 "EightReasonsModel" "thoughtNeed" "I") (List.mem_of_getElem? (i := 2) rfl)) (fun _ h9 => h9) rfl (tyX9_ok 40 (by decide)) rfl rfl (Nat.le_of_ble_eq_true rfl) dX9_worth_27 (fun H locs hP hD hS => ?_)
        obtain ⟨f, hT, hP, hD, e37, hj38⟩ := stU (by decide) (TYm.p148 hT (show OKm ad cy c_text m_taped m_size m_faultKind m_faultPlace m_at m_end m_token m_number m_name c_points c_strands c_units c_told c_ruleFrom c_ruleTo c_code c_eWhat c_eSign m_bank m_rb m_codes m_within m_piled m_unitsInRule v19_p_m_askStrand v19_p_m_askTied p1 v19_l3 m_thoughtAll v19_p_c_roundOf m_acts m_undone m_laid m_firstMove m_seens m_time m_waysNow m_fitting 148 _ from (show okX9 ad m_taped m_size m_faultKind m_faultPlace m_at m_end m_token m_number m_name m_bank m_rb m_codes m_within m_piled m_unitsInRule v19_p_m_askStrand v19_p_m_askTied p1 v19_l3 m_thoughtAll m_acts m_undone m_laid m_firstMove m_seens m_time m_waysNow m_fitting 148 _ from ⟨rfl, by omega, by omega, by omega, by omega, by omega, by omega, by omega, by omega, by omega, by omega, by omega, by omega, by omega, by omega, by omega⟩))) hP hD
        refine lv_aload_n hx hb dX9_worth_30 rfl (lv_at hl 2 rfl) ?_
        refine tVI (As := []) (rest := []) (i := 148) ⟨hx, hb, hml, hown, hts⟩ hK hE hP hD hS hA hAB (s_X9_standNow_0 l B0 adK adV D cy ad fr0 c_text m_taped m_size m_faultKind m_faultPlace m_at m_end m_token m_number m_name c_points c_strands c_units c_told c_ruleFrom c_ruleTo c_code c_eWhat c_eSign m_bank m_rb m_codes m_within m_piled m_unitsInRule v19_p_m_askStrand v19_p_m_askTied p1 v19_l3 m_thoughtAll v19_p_c_roundOf m_acts m_undone m_laid m_firstMove m_seens m_time m_waysNow m_fitting f hT hCV _) (cwV 0 hts gX9_worth_X9_standNow rfl rfl rfl (by decide +kernel) ⟨Nat.le_of_ble_eq_true rfl, Nat.le_of_ble_eq_true rfl⟩) (by decide) 9 e37 rfl rfl hl.1 rfl (Nat.le_of_ble_eq_true rfl) dX9_worth_31 ⟨Nat.le_of_ble_eq_true rfl, Nat.le_of_ble_eq_true rfl⟩ (fun r f H locs hw hP hD hS => ?_)
        obtain ⟨hrs, x39, x40, y41, hT, h42⟩ := hw
        obtain ⟨x43, rfl⟩ : ∃ q, q = r := ⟨_, rfl⟩
        have h44 := hrs
        refine lv_iload_n hx hb dX9_worth_34 rfl (lv_at hl 3 rfl) ?_
        refine tSI (As := [.int x43, .int p1]) (rest := []) ⟨hx, hb, hml, hown, hts⟩ hK hE hP hD hS hA hAB (s_X9_bit_0 l B0 adK adV D cy ad f x43 p1 (by omega) _) (va_cwS 2 hts gX9_worth_X9_bit rfl rfl rfl (by decide +kernel) ⟨Nat.le_of_ble_eq_true rfl, Nat.le_of_ble_eq_true rfl⟩) rfl hl.1 rfl (Nat.le_of_ble_eq_true rfl) dX9_worth_35 ⟨Nat.le_of_ble_eq_true rfl, Nat.le_of_ble_eq_true rfl⟩ (fun r g H locs hw hP hD hS => ?_)
        obtain ⟨hrs, rfl⟩ := hw
        obtain ⟨x45, rfl⟩ : ∃ q, q = r := ⟨_, rfl⟩
        rcases hrs with ⟨rfl, h46⟩ | ⟨rfl, h47⟩
        · refine lv_if_eq (tgt := 43) hx hb dX9_worth_38 (by decide) (fun c => absurd c (by decide)) (fun _ => ?_)
          refine lv_iload_n hx hb dX9_worth_41 rfl (lv_at hl 0 rfl) ?_
          refine lv_istore_n (lv' := [(2, .int v19_l3), (3, .int v19_l3), (0, .ref (ad 148)), (1, .int p1)]) hx hb dX9_worth_42 rfl hl (by decide) rfl (fun ls hl => ?_)
          exact j43 f H locs ls v19_l3 x39 x40 y41 (by omega) (by omega) (by omega) (by omega) (by omega) (by omega) hT hP hD hS (lv_sub hl [0, 1, 2, 3] rfl)
        · refine lv_if_eq (tgt := 43) hx hb dX9_worth_38 (by decide) (fun _ => ?_) (fun c => absurd (by decide) c)
          exact j43 f H locs ls v19_l2 x39 x40 y41 (by omega) (by omega) (by omega) (by omega) (by omega) (by omega) hT hP hD hS (lv_sub hl [1, 0, 2, 3] rfl)
  refine lv_aload_n hx hb dX9_worth_0 rfl (lv_at hl 0 rfl) ?_
  refine lv_iload_n hx hb dX9_worth_1 rfl (lv_at hl 1 rfl) ?_
  obtain ⟨e63, h48, h49, h50, h51, h52, h53, h54, h55, h56, h57, h58, h59, h60, h61, h62⟩ := (show okX9 ad m_taped m_size m_faultKind m_faultPlace m_at m_end m_token m_number m_name m_bank m_rb m_codes m_within m_piled m_unitsInRule m_askStrand m_askTied m_thoughtClaim m_thoughtNeed m_thoughtAll m_acts m_undone m_laid m_firstMove m_seens m_time m_waysNow m_fitting 148 (f 148) from hT.1 148 (by decide))
  refine tVI (As := [.int p1]) (rest := []) (i := 148) ⟨hx, hb, hml, hown, hts⟩ hK hE hP hD hS hA hAB (s_X9_isClaim_0 l B0 adK adV D cy ad fr0 c_text m_taped m_size m_faultKind m_faultPlace m_at m_end m_token m_number m_name c_points c_strands c_units c_told c_ruleFrom c_ruleTo c_code c_eWhat c_eSign m_bank m_rb m_codes m_within m_piled m_unitsInRule m_askStrand m_askTied m_thoughtClaim m_thoughtNeed m_thoughtAll c_roundOf m_acts m_undone m_laid m_firstMove m_seens m_time m_waysNow m_fitting f hT p1 _) (cwV 1 hts gX9_worth_X9_isClaim rfl rfl rfl (by decide +kernel) ⟨Nat.le_of_ble_eq_true rfl, Nat.le_of_ble_eq_true rfl⟩) (by decide) 9 e63 rfl rfl hl.1 rfl (Nat.le_of_ble_eq_true rfl) dX9_worth_2 ⟨Nat.le_of_ble_eq_true rfl, Nat.le_of_ble_eq_true rfl⟩ (fun r g H locs hw hP hD hS => ?_)
  obtain ⟨hrs, rfl⟩ := hw
  obtain ⟨x64, rfl⟩ : ∃ q, q = r := ⟨_, rfl⟩
  rcases hrs with ⟨rfl, h65, h66⟩ | rfl
  · refine lv_if_ne (tgt := 10) hx hb dX9_worth_5 (by decide) (fun _ => ?_) (fun c => absurd c (by decide))
    refine lv_iconst (v := (-1)) hx hb dX9_worth_10 (by decide) ?_
    refine lv_istore_n (lv' := [(2, .int (-1)), (0, .ref (ad 148)), (1, .int p1)]) hx hb dX9_worth_11 rfl hl (by decide) rfl (fun ls hl => ?_)
    refine lv_aload_n hx hb dX9_worth_12 rfl (lv_at hl 1 rfl) ?_
    refine lv_iload_n hx hb dX9_worth_13 rfl (lv_at hl 2 rfl) ?_
    refine va_put (D := D) (cl := vwCl) (ci := 9) (v := .int p1) (ty := tyX9 39) (C := RX9) (T := TX9) (N := 64) hx hb hts in_X9_worth_X9 tyX9 tyX9_ok nmX9 hown hK hP hD hS 148 (wl_at (by decide) e63) rfl 39 (by decide) (hts (.fieldLink RX9 82 "EightReasonsModel" "thoughtClaim" "I") (List.mem_of_getElem? (i := 1) rfl)) (fun _ h9 => h9) rfl (tyX9_ok 39 (by decide)) rfl rfl (Nat.le_of_ble_eq_true rfl) dX9_worth_14 (fun H locs hP hD hS => ?_)
    obtain ⟨f, hT, hP, hD, e67, hj68⟩ := stU (by decide) (TYm.p148 hT (show OKm ad cy c_text m_taped m_size m_faultKind m_faultPlace m_at m_end m_token m_number m_name c_points c_strands c_units c_told c_ruleFrom c_ruleTo c_code c_eWhat c_eSign m_bank m_rb m_codes m_within m_piled m_unitsInRule m_askStrand m_askTied p1 m_thoughtNeed m_thoughtAll c_roundOf m_acts m_undone m_laid m_firstMove m_seens m_time m_waysNow m_fitting 148 _ from (show okX9 ad m_taped m_size m_faultKind m_faultPlace m_at m_end m_token m_number m_name m_bank m_rb m_codes m_within m_piled m_unitsInRule m_askStrand m_askTied p1 m_thoughtNeed m_thoughtAll m_acts m_undone m_laid m_firstMove m_seens m_time m_waysNow m_fitting 148 _ from ⟨rfl, by omega, by omega, by omega, by omega, by omega, by omega, by omega, by omega, by omega, by omega, by omega, by omega, by omega, by omega, by omega⟩))) hP hD
    refine lv_iconst (v := 0) hx hb dX9_worth_17 (by decide) ?_
    refine lv_istore_n (lv' := [(3, .int 0), (2, .int (-1)), (0, .ref (ad 148)), (1, .int p1)]) hx hb dX9_worth_18 rfl hl (by decide) rfl (fun ls hl => ?_)
    have ttl_0 := tl_0
    have ttl_m1 := tl_m1
    exact j19 (Int.toNat (101 - (0 : Int32).toInt)) f H locs ls (0 : Int32) ((-1) : Int32) m_askStrand m_askTied m_thoughtNeed c_roundOf (by omega) (by omega) (by omega) (by omega) (by omega) hT hP hD hS (lv_sub hl [0, 1, 2, 3] rfl)
  · refine lv_if_ne (tgt := 10) hx hb dX9_worth_5 (by decide) (fun c => absurd (by decide) c) (fun _ => ?_)
    refine lv_iconst (v := (-1)) hx hb dX9_worth_8 (by decide) ?_
    have ttl_m1 := tl_m1
    exact tI hx hb hr hlk rfl hP hS ⟨(by omega), ⟨m_askStrand, m_askTied, m_thoughtClaim, m_thoughtNeed, c_roundOf, hT⟩⟩ dX9_worth_9
set_option maxHeartbeats 4000000 in
set_option maxRecDepth 100000 in
theorem s_X9_with_0 (l : Launch) (B0 : Nat) (adK adV : Nat → Nat) (D : va_G) (cy : Nat → ClassId) (ad : Nat → Nat) (fr0 : Nat → va_E) (c_text : Nat → Int32) (m_taped : Int32) (m_size : Int32) (m_faultKind : Int32) (m_faultPlace : Int32) (m_at : Int32) (m_end : Int32) (m_token : Int32) (m_number : Int32) (m_name : Int64) (c_points : Nat → Int32) (c_strands : Nat → Int32) (c_units : Nat → Int32) (c_told : Nat → Int32) (c_ruleFrom : Nat → Int32) (c_ruleTo : Nat → Int32) (c_code : Nat → Int32) (c_eWhat : Nat → Int32) (c_eSign : Nat → Int32) (m_bank : Int32) (m_rb : Int32) (m_codes : Int32) (m_within : Int32) (m_piled : Int32) (m_unitsInRule : Int32) (m_askStrand : Int32) (m_askTied : Int32) (m_thoughtClaim : Int32) (m_thoughtNeed : Int32) (m_thoughtAll : Int32) (c_roundOf : Nat → Int32) (m_acts : Int32) (m_undone : Int32) (m_laid : Int32) (m_firstMove : Int32) (m_seens : Int32) (m_time : Int32) (m_waysNow : Int32) (m_fitting : Int32) (f : Nat → va_E) (hT : TYm ad cy fr0 c_text m_taped m_size m_faultKind m_faultPlace m_at m_end m_token m_number m_name c_points c_strands c_units c_told c_ruleFrom c_ruleTo c_code c_eWhat c_eSign m_bank m_rb m_codes m_within m_piled m_unitsInRule m_askStrand m_askTied m_thoughtClaim m_thoughtNeed m_thoughtAll c_roundOf m_acts m_undone m_laid m_firstMove m_seens m_time m_waysNow m_fitting f) (p1 : Int32) (hCV : CVp c_told c_ruleFrom c_ruleTo c_code m_bank) (sz : Nat) : TtI l yX9_with wsX9_with 7 159 [.ref (ad 148), .int p1] B0 adK adV D cy ad f sz (fun (r : Int32) (g : Nat → va_E) => (-1 ≤ r.toInt ∧ r.toInt ≤ 4095) ∧ (∃ (m_askStrand' : Int32) (m_askTied' : Int32) (c_roundOf' : Nat → Int32), TYm ad cy fr0 c_text m_taped m_size m_faultKind m_faultPlace m_at m_end m_token m_number m_name c_points c_strands c_units c_told c_ruleFrom c_ruleTo c_code c_eWhat c_eSign m_bank m_rb m_codes m_within m_piled m_unitsInRule m_askStrand' m_askTied' m_thoughtClaim m_thoughtNeed m_thoughtAll c_roundOf' m_acts m_undone m_laid m_firstMove m_seens m_time m_waysNow m_fitting g)) := by
  refine TtI.of (cc := cX9_with) (maxL := 2) (ty := .int) (own := RX9) (by decide) rfl (Nat.le_of_ble_eq_true rfl) rfl ?_
  intro p e s m below meth c A ls hx hb hr hml hts hown hlk hK hE hP hD hS hA hAB hl
  have hl : lv_has ls 2 [(0, .ref (ad 148)), (1, .int p1)] := hl
  refine st0 (fun H locs hP hS => ?_) hP hS
  refine lv_iload_n hx hb dX9_with_0 rfl (lv_at hl 1 rfl) ?_
  refine lv_iconst (v := 0) hx hb dX9_with_1 (by decide) ?_
  refine lv_iconst (v := 1) hx hb dX9_with_2 (by decide) ?_
  refine lv_aload_n hx hb dX9_with_3 rfl (lv_at hl 0 rfl) ?_
  obtain ⟨e16, h1, h2, h3, h4, h5, h6, h7, h8, h9, h10, h11, h12, h13, h14, h15⟩ := (show okX9 ad m_taped m_size m_faultKind m_faultPlace m_at m_end m_token m_number m_name m_bank m_rb m_codes m_within m_piled m_unitsInRule m_askStrand m_askTied m_thoughtClaim m_thoughtNeed m_thoughtAll m_acts m_undone m_laid m_firstMove m_seens m_time m_waysNow m_fitting 148 (f 148) from hT.1 148 (by decide))
  refine tVI (As := []) (rest := [.int 1, .int 0, .int p1]) (i := 148) ⟨hx, hb, hml, hown, hts⟩ hK hE hP hD hS hA hAB (s_X9_threads_0 l B0 adK adV D cy ad fr0 c_text m_taped m_size m_faultKind m_faultPlace m_at m_end m_token m_number m_name c_points c_strands c_units c_told c_ruleFrom c_ruleTo c_code c_eWhat c_eSign m_bank m_rb m_codes m_within m_piled m_unitsInRule m_askStrand m_askTied m_thoughtClaim m_thoughtNeed m_thoughtAll c_roundOf m_acts m_undone m_laid m_firstMove m_seens m_time m_waysNow m_fitting f hT _) (cwV 0 hts gX9_with_X9_threads rfl rfl rfl (by decide +kernel) ⟨Nat.le_of_ble_eq_true rfl, Nat.le_of_ble_eq_true rfl⟩) (by decide) 9 e16 rfl rfl hl.1 rfl (Nat.le_of_ble_eq_true rfl) dX9_with_4 ⟨Nat.le_of_ble_eq_true rfl, Nat.le_of_ble_eq_true rfl⟩ (fun r g H locs hw hP hD hS => ?_)
  obtain ⟨hrs, rfl⟩ := hw
  obtain ⟨x17, rfl⟩ : ∃ q, q = r := ⟨_, rfl⟩
  have h18 := hrs
  refine lv_ishl hx hb dX9_with_7 ?_
  refine lv_topi (fun x19 ex19 => ?_)
  have hx19 := r_shl (K := 12) (M := 4096) ex19 (by decide) (by decide) (by omega) (by omega)
  refine lv_iconst (v := 1) hx hb dX9_with_8 (by decide) ?_
  have ttl_1 := tl_1
  refine lv_isub hx hb dX9_with_9 ?_
  refine lv_topi (fun x20 ex20 => ?_)
  have hx20 := r_sub ex20 (by omega) (by omega)
  have ttl_0 := tl_0
  refine tSI (As := [.int p1, .int 0, .int x20]) (rest := []) ⟨hx, hb, hml, hown, hts⟩ hK hE hP hD hS hA hAB (s_X9_isIn_0 l B0 adK adV D cy ad f p1 (0 : Int32) (by omega) x20 (by omega) _) (va_cwS 3 hts gX9_with_X9_isIn rfl rfl rfl (by decide +kernel) ⟨Nat.le_of_ble_eq_true rfl, Nat.le_of_ble_eq_true rfl⟩) rfl hl.1 rfl (Nat.le_of_ble_eq_true rfl) dX9_with_10 ⟨Nat.le_of_ble_eq_true rfl, Nat.le_of_ble_eq_true rfl⟩ (fun r g H locs hw hP hD hS => ?_)
  obtain ⟨hrs, rfl⟩ := hw
  obtain ⟨x21, rfl⟩ : ∃ q, q = r := ⟨_, rfl⟩
  rcases hrs with ⟨rfl, h22, h23⟩ | rfl
  · refine lv_if_eq (tgt := 24) hx hb dX9_with_13 (by decide) (fun c => absurd c (by decide)) (fun _ => ?_)
    refine lv_aload_n hx hb dX9_with_16 rfl (lv_at hl 0 rfl) ?_
    refine lv_iload_n hx hb dX9_with_17 rfl (lv_at hl 1 rfl) ?_
    refine tVI (As := [.int p1]) (rest := []) (i := 148) ⟨hx, hb, hml, hown, hts⟩ hK hE hP hD hS hA hAB (s_X9_standWith_0 l B0 adK adV D cy ad fr0 c_text m_taped m_size m_faultKind m_faultPlace m_at m_end m_token m_number m_name c_points c_strands c_units c_told c_ruleFrom c_ruleTo c_code c_eWhat c_eSign m_bank m_rb m_codes m_within m_piled m_unitsInRule m_askStrand m_askTied m_thoughtClaim m_thoughtNeed m_thoughtAll c_roundOf m_acts m_undone m_laid m_firstMove m_seens m_time m_waysNow m_fitting f hT p1 (by omega) hCV _) (cwV 1 hts gX9_with_X9_standWith rfl rfl rfl (by decide +kernel) ⟨Nat.le_of_ble_eq_true rfl, Nat.le_of_ble_eq_true rfl⟩) (by decide) 9 e16 rfl rfl hl.1 rfl (Nat.le_of_ble_eq_true rfl) dX9_with_18 ⟨Nat.le_of_ble_eq_true rfl, Nat.le_of_ble_eq_true rfl⟩ (fun r f H locs hw hP hD hS => ?_)
    obtain ⟨hrs, x24, x25, y26, hT, h27⟩ := hw
    obtain ⟨x28, rfl⟩ : ∃ q, q = r := ⟨_, rfl⟩
    have h29 := hrs
    refine lv_goto (tgt := 25) hx hb dX9_with_21 (by decide) ?_
    exact tI hx hb hr hlk rfl hP hS ⟨(by omega), ⟨x24, x25, y26, hT⟩⟩ dX9_with_25
  · refine lv_if_eq (tgt := 24) hx hb dX9_with_13 (by decide) (fun _ => ?_) (fun c => absurd (by decide) c)
    refine lv_iconst (v := (-1)) hx hb dX9_with_24 (by decide) ?_
    have ttl_m1 := tl_m1
    exact tI hx hb hr hlk rfl hP hS ⟨(by omega), ⟨m_askStrand, m_askTied, c_roundOf, hT⟩⟩ dX9_with_25
set_option maxHeartbeats 4000000 in
set_option maxRecDepth 100000 in
theorem s_X9_perils_0 (l : Launch) (B0 : Nat) (adK adV : Nat → Nat) (D : va_G) (cy : Nat → ClassId) (ad : Nat → Nat) (fr0 : Nat → va_E) (c_text : Nat → Int32) (m_taped : Int32) (m_size : Int32) (m_faultKind : Int32) (m_faultPlace : Int32) (m_at : Int32) (m_end : Int32) (m_token : Int32) (m_number : Int32) (m_name : Int64) (c_points : Nat → Int32) (c_strands : Nat → Int32) (c_units : Nat → Int32) (c_told : Nat → Int32) (c_ruleFrom : Nat → Int32) (c_ruleTo : Nat → Int32) (c_code : Nat → Int32) (c_eWhat : Nat → Int32) (c_eSign : Nat → Int32) (m_bank : Int32) (m_rb : Int32) (m_codes : Int32) (m_within : Int32) (m_piled : Int32) (m_unitsInRule : Int32) (m_askStrand : Int32) (m_askTied : Int32) (m_thoughtClaim : Int32) (m_thoughtNeed : Int32) (m_thoughtAll : Int32) (c_roundOf : Nat → Int32) (m_acts : Int32) (m_undone : Int32) (m_laid : Int32) (m_firstMove : Int32) (m_seens : Int32) (m_time : Int32) (m_waysNow : Int32) (m_fitting : Int32) (f : Nat → va_E) (hT : TYm ad cy fr0 c_text m_taped m_size m_faultKind m_faultPlace m_at m_end m_token m_number m_name c_points c_strands c_units c_told c_ruleFrom c_ruleTo c_code c_eWhat c_eSign m_bank m_rb m_codes m_within m_piled m_unitsInRule m_askStrand m_askTied m_thoughtClaim m_thoughtNeed m_thoughtAll c_roundOf m_acts m_undone m_laid m_firstMove m_seens m_time m_waysNow m_fitting f) (p1 : Int32) (p2 : Int32) (hCV : CVp c_told c_ruleFrom c_ruleTo c_code m_bank) (sz : Nat) : TtI l yX9_perils wsX9_perils 8 181 [.ref (ad 148), .int p1, .int p2] B0 adK adV D cy ad f sz (fun (r : Int32) (g : Nat → va_E) => True ∧ (∃ (m_askStrand' : Int32) (m_askTied' : Int32) (c_roundOf' : Nat → Int32), TYm ad cy fr0 c_text m_taped m_size m_faultKind m_faultPlace m_at m_end m_token m_number m_name c_points c_strands c_units c_told c_ruleFrom c_ruleTo c_code c_eWhat c_eSign m_bank m_rb m_codes m_within m_piled m_unitsInRule m_askStrand' m_askTied' m_thoughtClaim m_thoughtNeed m_thoughtAll c_roundOf' m_acts m_undone m_laid m_firstMove m_seens m_time m_waysNow m_fitting g)) := by
  refine TtI.of (cc := cX9_perils) (maxL := 5) (ty := .int) (own := RX9) (by decide) rfl (Nat.le_of_ble_eq_true rfl) rfl ?_
  intro p e s m below meth c A ls hx hb hr hml hts hown hlk hK hE hP hD hS hA hAB hl
  have hl : lv_has ls 5 [(0, .ref (ad 148)), (1, .int p1), (2, .int p2)] := hl
  refine st0 (fun H locs hP hS => ?_) hP hS
  have j35 : ∀ (N : Nat) (f : Nat → va_E) (H : Heap) (locs : List Loc) (ls : Array Slot) (v35_l4 : Int32) (v35_l3 : Int32) (v35_p_m_askStrand : Int32) (v35_p_m_askTied : Int32) (v35_p_c_roundOf : Nat → Int32), (4097 - v35_l4.toInt ≤ (N : Int)) → (1 ≤ v35_l4.toInt ∧ v35_l4.toInt ≤ 4096) → (0 ≤ p1.toInt ∧ p1.toInt ≤ 9) → (0 ≤ p2.toInt ∧ p2.toInt ≤ 1) → (0 ≤ v35_p_m_askTied.toInt ∧ v35_p_m_askTied.toInt ≤ 4095) → (TYm ad cy fr0 c_text m_taped m_size m_faultKind m_faultPlace m_at m_end m_token m_number m_name c_points c_strands c_units c_told c_ruleFrom c_ruleTo c_code c_eWhat c_eSign m_bank m_rb m_codes m_within m_piled m_unitsInRule v35_p_m_askStrand v35_p_m_askTied m_thoughtClaim m_thoughtNeed m_thoughtAll v35_p_c_roundOf m_acts m_undone m_laid m_firstMove m_seens m_time m_waysNow m_fitting f) → (va_P D vwCl (wl ad f) H) → (va_D A (wl ad f)) → (va_S A s.heap H locs) → (lv_has ls 5 [(4, .int v35_l4), (3, .int v35_l3), (0, .ref (ad 148)), (1, .int p1), (2, .int p2)]) → W p l e (rmO 8 181 0 0) s m ([.ref (ad 148), .int p1, .int p2] : List Value).toArray below meth c H locs 0 0 (MQ below (va_Qi (fun (r : Int32) (g : Nat → va_E) => True ∧ (∃ (m_askStrand' : Int32) (m_askTied' : Int32) (c_roundOf' : Nat → Int32), TYm ad cy fr0 c_text m_taped m_size m_faultKind m_faultPlace m_at m_end m_token m_number m_name c_points c_strands c_units c_told c_ruleFrom c_ruleTo c_code c_eWhat c_eSign m_bank m_rb m_codes m_within m_piled m_unitsInRule m_askStrand' m_askTied' m_thoughtClaim m_thoughtNeed m_thoughtAll c_roundOf' m_acts m_undone m_laid m_firstMove m_seens m_time m_waysNow m_fitting g)) (fun g t => PstT D ad g t) A) ([.ref (ad 148), .int p1, .int p2] : List Value).toArray s 0 0 A) (F0 m 35 ls []) := by
    intro N
    induction N with
    | zero => intro f H locs ls v35_l4 v35_l3 v35_p_m_askStrand v35_p_m_askTied v35_p_c_roundOf hN hv35_l4 hv35_l1 hv35_l2 hv35_p_m_askTied hT hP hD hS hl; exact absurd hN (by omega)
    | succ N ih35 =>
      intro f H locs ls v35_l4 v35_l3 v35_p_m_askStrand v35_p_m_askTied v35_p_c_roundOf hN hv35_l4 hv35_l1 hv35_l2 hv35_p_m_askTied hT hP hD hS hl
      have j93 : ∀ (f : Nat → va_E) (H : Heap) (locs : List Loc) (ls : Array Slot) (v93_l3 : Int32) (v93_p_m_askStrand : Int32) (v93_p_m_askTied : Int32) (v93_p_c_roundOf : Nat → Int32), (1 ≤ v35_l4.toInt ∧ v35_l4.toInt ≤ 4095) → (0 ≤ p1.toInt ∧ p1.toInt ≤ 9) → (0 ≤ p2.toInt ∧ p2.toInt ≤ 1) → (0 ≤ v93_p_m_askTied.toInt ∧ v93_p_m_askTied.toInt ≤ 4095) → (TYm ad cy fr0 c_text m_taped m_size m_faultKind m_faultPlace m_at m_end m_token m_number m_name c_points c_strands c_units c_told c_ruleFrom c_ruleTo c_code c_eWhat c_eSign m_bank m_rb m_codes m_within m_piled m_unitsInRule v93_p_m_askStrand v93_p_m_askTied m_thoughtClaim m_thoughtNeed m_thoughtAll v93_p_c_roundOf m_acts m_undone m_laid m_firstMove m_seens m_time m_waysNow m_fitting f) → (va_P D vwCl (wl ad f) H) → (va_D A (wl ad f)) → (va_S A s.heap H locs) → (lv_has ls 5 [(4, .int v35_l4), (3, .int v93_l3), (0, .ref (ad 148)), (1, .int p1), (2, .int p2)]) → W p l e (rmO 8 181 0 0) s m ([.ref (ad 148), .int p1, .int p2] : List Value).toArray below meth c H locs 0 0 (MQ below (va_Qi (fun (r : Int32) (g : Nat → va_E) => True ∧ (∃ (m_askStrand' : Int32) (m_askTied' : Int32) (c_roundOf' : Nat → Int32), TYm ad cy fr0 c_text m_taped m_size m_faultKind m_faultPlace m_at m_end m_token m_number m_name c_points c_strands c_units c_told c_ruleFrom c_ruleTo c_code c_eWhat c_eSign m_bank m_rb m_codes m_within m_piled m_unitsInRule m_askStrand' m_askTied' m_thoughtClaim m_thoughtNeed m_thoughtAll c_roundOf' m_acts m_undone m_laid m_firstMove m_seens m_time m_waysNow m_fitting g)) (fun g t => PstT D ad g t) A) ([.ref (ad 148), .int p1, .int p2] : List Value).toArray s 0 0 A) (F0 m 93 ls []) := by
        intro f H locs ls v93_l3 v93_p_m_askStrand v93_p_m_askTied v93_p_c_roundOf hv93_l4 hv93_l1 hv93_l2 hv93_p_m_askTied hT hP hD hS hl
        obtain ⟨x1, ex1⟩ : ∃ q : Int32, q = v35_l4 + Int32.ofInt (1) := ⟨_, rfl⟩
        refine lv_iinc (v := x1) (lv' := [(4, .int x1), (3, .int v93_l3), (0, .ref (ad 148)), (1, .int p1), (2, .int p2)]) hx hb dX9_perils_93 hl (k := 0) rfl ex1.symm (by decide) rfl (fun ls hl => ?_)
        have hx1 := r_inc ex1 (by decide) (by omega) (by omega)
        refine lv_goto (tgt := 35) hx hb dX9_perils_96 (by decide) ?_
        exact ih35 f H locs ls x1 v93_l3 v93_p_m_askStrand v93_p_m_askTied v93_p_c_roundOf (by omega) (by omega) (by omega) (by omega) (by omega) hT hP hD hS (lv_sub hl [0, 1, 2, 3, 4] rfl)
      refine lv_iload hx hb dX9_perils_35 (lv_at hl 0 rfl) ?_
      refine lv_aload_n hx hb dX9_perils_37 rfl (lv_at hl 2 rfl) ?_
      obtain ⟨e17, h2, h3, h4, h5, h6, h7, h8, h9, h10, h11, h12, h13, h14, h15, h16⟩ := (show okX9 ad m_taped m_size m_faultKind m_faultPlace m_at m_end m_token m_number m_name m_bank m_rb m_codes m_within m_piled m_unitsInRule v35_p_m_askStrand v35_p_m_askTied m_thoughtClaim m_thoughtNeed m_thoughtAll m_acts m_undone m_laid m_firstMove m_seens m_time m_waysNow m_fitting 148 (f 148) from hT.1 148 (by decide))
      refine va_get (D := D) (cl := vwCl) (ci := 9) (v := .ref (ad 169)) (C := RX9) (T := TX9) (N := 64) hx hb hts in_X9_perils_X9 hown hK hP 148 (wl_at (by decide) e17) rfl 37 (by decide) (hts (.fieldLink RX9 76 "EightReasonsModel" "all" "[I") (List.mem_of_getElem? (i := 1) rfl)) (fun _ h9 => h9) rfl dX9_perils_38 ?_
      refine lv_iconst (v := 1) hx hb dX9_perils_41 (by decide) ?_
      obtain ⟨g20, e18, h19⟩ := (show okIr cy 16 (0) (4095) 16 1 (f 169) from hT.1 169 (by decide))
      have ttl_1 := tl_1
      refine va_iald hx hb hK hP 169 0 (wl_at (by decide) e18) rfl (vin (by decide)) dX9_perils_42 ?_
      refine lv_topi (fun x21 ex21 => ?_)
      have hx21 := r_el (h19 _ (by decide)) ex21
      refine lv_icmp_gt (tgt := 99) hx hb dX9_perils_43 (by decide) (fun c22 => ?_) (fun c22 => ?_)
      · have kc22 := c_lt c22
        refine lv_iload_n hx hb dX9_perils_99 rfl (lv_at hl 1 rfl) ?_
        exact tI hx hb hr hlk rfl hP hS ⟨trivial, ⟨v35_p_m_askStrand, v35_p_m_askTied, v35_p_c_roundOf, hT⟩⟩ dX9_perils_100
      · have kc22 := c_nlt c22
        refine lv_iload hx hb dX9_perils_46 (lv_at hl 0 rfl) ?_
        refine lv_aload_n hx hb dX9_perils_48 rfl (lv_at hl 2 rfl) ?_
        refine va_get (D := D) (cl := vwCl) (ci := 9) (v := .ref (ad 169)) (C := RX9) (T := TX9) (N := 64) hx hb hts in_X9_perils_X9 hown hK hP 148 (wl_at (by decide) e17) rfl 37 (by decide) (hts (.fieldLink RX9 76 "EightReasonsModel" "all" "[I") (List.mem_of_getElem? (i := 1) rfl)) (fun _ h9 => h9) rfl dX9_perils_49 ?_
        refine lv_iconst (v := 1) hx hb dX9_perils_52 (by decide) ?_
        refine va_iald hx hb hK hP 169 0 (wl_at (by decide) e18) rfl (vin (by decide)) dX9_perils_53 ?_
        refine lv_topi (fun x23 ex23 => ?_)
        have hx23 := r_el (h19 _ (by decide)) ex23
        refine lv_iconst (v := (-1)) hx hb dX9_perils_54 (by decide) ?_
        refine lv_ixor hx hb dX9_perils_55 ?_
        refine lv_topi (fun x24 ex24 => ?_)
        refine lv_iand hx hb dX9_perils_56 ?_
        refine lv_topi (fun x25 ex25 => ?_)
        have hx25 := r_andl ex25 (by omega)
        have ttl_0 := tl_0
        refine lv_if_ne (tgt := 93) hx hb dX9_perils_57 (by decide) (fun c26 => ?_) (fun c26 => ?_)
        · have kc26 := c_ne c26
          exact j93 f H locs ls v35_l3 v35_p_m_askStrand v35_p_m_askTied v35_p_c_roundOf (by omega) (by omega) (by omega) (by omega) hT hP hD hS (lv_sub hl [0, 1, 2, 3, 4] rfl)
        · have kc26 := c_eq c26
          refine lv_iload hx hb dX9_perils_60 (lv_at hl 0 rfl) ?_
          refine tSI (As := [.int v35_l4]) (rest := []) ⟨hx, hb, hml, hown, hts⟩ hK hE hP hD hS hA hAB (s_X9_bitsOf_0 l B0 adK adV D cy ad f v35_l4 (by omega) _) (va_cwS 1 hts gX9_perils_X9_bitsOf rfl rfl rfl (by decide +kernel) ⟨Nat.le_of_ble_eq_true rfl, Nat.le_of_ble_eq_true rfl⟩) rfl hl.1 rfl (Nat.le_of_ble_eq_true rfl) dX9_perils_62 ⟨Nat.le_of_ble_eq_true rfl, Nat.le_of_ble_eq_true rfl⟩ (fun r g H locs hw hP hD hS => ?_)
          obtain ⟨hrs, rfl⟩ := hw
          obtain ⟨x27, rfl⟩ : ∃ q, q = r := ⟨_, rfl⟩
          have h28 := hrs
          refine lv_iload_n hx hb dX9_perils_65 rfl (lv_at hl 4 rfl) ?_
          refine lv_iconst (v := 1) hx hb dX9_perils_66 (by decide) ?_
          refine lv_iadd hx hb dX9_perils_67 ?_
          refine lv_topi (fun x29 ex29 => ?_)
          have hx29 := r_add ex29 (by omega) (by omega)
          refine lv_icmp_ne (tgt := 93) hx hb dX9_perils_68 (by decide) (fun c30 => ?_) (fun c30 => ?_)
          · have kc30 := c_ne c30
            exact j93 f H locs ls v35_l3 v35_p_m_askStrand v35_p_m_askTied v35_p_c_roundOf (by omega) (by omega) (by omega) (by omega) hT hP hD hS (lv_sub hl [0, 1, 2, 3, 4] rfl)
          · have kc30 := c_eq c30
            refine lv_aload_n hx hb dX9_perils_71 rfl (lv_at hl 2 rfl) ?_
            refine lv_iload_n hx hb dX9_perils_72 rfl (lv_at hl 3 rfl) ?_
            refine lv_aload_n hx hb dX9_perils_73 rfl (lv_at hl 2 rfl) ?_
            refine va_get (D := D) (cl := vwCl) (ci := 9) (v := .ref (ad 169)) (C := RX9) (T := TX9) (N := 64) hx hb hts in_X9_perils_X9 hown hK hP 148 (wl_at (by decide) e17) rfl 37 (by decide) (hts (.fieldLink RX9 76 "EightReasonsModel" "all" "[I") (List.mem_of_getElem? (i := 1) rfl)) (fun _ h9 => h9) rfl dX9_perils_74 ?_
            refine lv_iconst (v := 1) hx hb dX9_perils_77 (by decide) ?_
            refine va_iald hx hb hK hP 169 0 (wl_at (by decide) e18) rfl (vin (by decide)) dX9_perils_78 ?_
            refine lv_topi (fun x31 ex31 => ?_)
            have hx31 := r_el (h19 _ (by decide)) ex31
            refine lv_iload hx hb dX9_perils_79 (lv_at hl 0 rfl) ?_
            refine lv_iconst (v := (-1)) hx hb dX9_perils_81 (by decide) ?_
            refine lv_ixor hx hb dX9_perils_82 ?_
            refine lv_topi (fun x32 ex32 => ?_)
            refine lv_iand hx hb dX9_perils_83 ?_
            refine lv_topi (fun x33 ex33 => ?_)
            have hx33 := r_andl ex33 (by omega)
            refine tVI (As := [.int p1, .int x33]) (rest := []) (i := 148) ⟨hx, hb, hml, hown, hts⟩ hK hE hP hD hS hA hAB (s_X9_doesStand_0 l B0 adK adV D cy ad fr0 c_text m_taped m_size m_faultKind m_faultPlace m_at m_end m_token m_number m_name c_points c_strands c_units c_told c_ruleFrom c_ruleTo c_code c_eWhat c_eSign m_bank m_rb m_codes m_within m_piled m_unitsInRule v35_p_m_askStrand v35_p_m_askTied m_thoughtClaim m_thoughtNeed m_thoughtAll v35_p_c_roundOf m_acts m_undone m_laid m_firstMove m_seens m_time m_waysNow m_fitting f hT p1 (by omega) x33 (by omega) hCV _) (cwV 2 hts gX9_perils_X9_doesStand rfl rfl rfl (by decide +kernel) ⟨Nat.le_of_ble_eq_true rfl, Nat.le_of_ble_eq_true rfl⟩) (by decide) 9 e17 rfl rfl hl.1 rfl (Nat.le_of_ble_eq_true rfl) dX9_perils_84 ⟨Nat.le_of_ble_eq_true rfl, Nat.le_of_ble_eq_true rfl⟩ (fun r f H locs hw hP hD hS => ?_)
            obtain ⟨hrs, x34, x35, y36, hT, h37⟩ := hw
            obtain ⟨x38, rfl⟩ : ∃ q, q = r := ⟨_, rfl⟩
            rcases hrs with rfl | rfl
            · refine lv_if_ne (tgt := 93) hx hb dX9_perils_87 (by decide) (fun _ => ?_) (fun c => absurd c (by decide))
              exact j93 f H locs ls v35_l3 x34 x35 y36 (by omega) (by omega) (by omega) (by omega) hT hP hD hS (lv_sub hl [0, 1, 2, 3, 4] rfl)
            · refine lv_if_ne (tgt := 93) hx hb dX9_perils_87 (by decide) (fun c => absurd (by decide) c) (fun _ => ?_)
              obtain ⟨x39, ex39⟩ : ∃ q : Int32, q = v35_l3 + Int32.ofInt (1) := ⟨_, rfl⟩
              refine lv_iinc (v := x39) (lv' := [(3, .int x39), (4, .int v35_l4), (0, .ref (ad 148)), (1, .int p1), (2, .int p2)]) hx hb dX9_perils_90 hl (k := 1) rfl ex39.symm (by decide) rfl (fun ls hl => ?_)
              exact j93 f H locs ls x39 x34 x35 y36 (by omega) (by omega) (by omega) (by omega) hT hP hD hS (lv_sub hl [1, 0, 2, 3, 4] rfl)
  refine lv_aload_n hx hb dX9_perils_0 rfl (lv_at hl 0 rfl) ?_
  refine lv_iload_n hx hb dX9_perils_1 rfl (lv_at hl 1 rfl) ?_
  obtain ⟨e55, h40, h41, h42, h43, h44, h45, h46, h47, h48, h49, h50, h51, h52, h53, h54⟩ := (show okX9 ad m_taped m_size m_faultKind m_faultPlace m_at m_end m_token m_number m_name m_bank m_rb m_codes m_within m_piled m_unitsInRule m_askStrand m_askTied m_thoughtClaim m_thoughtNeed m_thoughtAll m_acts m_undone m_laid m_firstMove m_seens m_time m_waysNow m_fitting 148 (f 148) from hT.1 148 (by decide))
  refine tVI (As := [.int p1]) (rest := []) (i := 148) ⟨hx, hb, hml, hown, hts⟩ hK hE hP hD hS hA hAB (s_X9_isClaim_0 l B0 adK adV D cy ad fr0 c_text m_taped m_size m_faultKind m_faultPlace m_at m_end m_token m_number m_name c_points c_strands c_units c_told c_ruleFrom c_ruleTo c_code c_eWhat c_eSign m_bank m_rb m_codes m_within m_piled m_unitsInRule m_askStrand m_askTied m_thoughtClaim m_thoughtNeed m_thoughtAll c_roundOf m_acts m_undone m_laid m_firstMove m_seens m_time m_waysNow m_fitting f hT p1 _) (cwV 1 hts gX9_perils_X9_isClaim rfl rfl rfl (by decide +kernel) ⟨Nat.le_of_ble_eq_true rfl, Nat.le_of_ble_eq_true rfl⟩) (by decide) 9 e55 rfl rfl hl.1 rfl (Nat.le_of_ble_eq_true rfl) dX9_perils_2 ⟨Nat.le_of_ble_eq_true rfl, Nat.le_of_ble_eq_true rfl⟩ (fun r g H locs hw hP hD hS => ?_)
  obtain ⟨hrs, rfl⟩ := hw
  obtain ⟨x56, rfl⟩ : ∃ q, q = r := ⟨_, rfl⟩
  rcases hrs with ⟨rfl, h57, h58⟩ | rfl
  · refine lv_if_eq (tgt := 28) hx hb dX9_perils_5 (by decide) (fun c => absurd c (by decide)) (fun _ => ?_)
    refine lv_iload_n hx hb dX9_perils_8 rfl (lv_at hl 2 rfl) ?_
    refine lv_iconst (v := 0) hx hb dX9_perils_9 (by decide) ?_
    refine lv_iconst (v := 1) hx hb dX9_perils_10 (by decide) ?_
    have ttl_0 := tl_0
    have ttl_1 := tl_1
    refine tSI (As := [.int p2, .int 0, .int 1]) (rest := []) ⟨hx, hb, hml, hown, hts⟩ hK hE hP hD hS hA hAB (s_X9_isIn_0 l B0 adK adV D cy ad f p2 (0 : Int32) (by omega) (1 : Int32) (by omega) _) (va_cwS 3 hts gX9_perils_X9_isIn rfl rfl rfl (by decide +kernel) ⟨Nat.le_of_ble_eq_true rfl, Nat.le_of_ble_eq_true rfl⟩) rfl hl.1 rfl (Nat.le_of_ble_eq_true rfl) dX9_perils_11 ⟨Nat.le_of_ble_eq_true rfl, Nat.le_of_ble_eq_true rfl⟩ (fun r g H locs hw hP hD hS => ?_)
    obtain ⟨hrs, rfl⟩ := hw
    obtain ⟨x59, rfl⟩ : ∃ q, q = r := ⟨_, rfl⟩
    rcases hrs with ⟨rfl, h60, h61⟩ | rfl
    · refine lv_if_eq (tgt := 28) hx hb dX9_perils_14 (by decide) (fun c => absurd c (by decide)) (fun _ => ?_)
      refine lv_aload_n hx hb dX9_perils_17 rfl (lv_at hl 0 rfl) ?_
      refine tVI (As := []) (rest := []) (i := 148) ⟨hx, hb, hml, hown, hts⟩ hK hE hP hD hS hA hAB (s_X9_standNow_0 l B0 adK adV D cy ad fr0 c_text m_taped m_size m_faultKind m_faultPlace m_at m_end m_token m_number m_name c_points c_strands c_units c_told c_ruleFrom c_ruleTo c_code c_eWhat c_eSign m_bank m_rb m_codes m_within m_piled m_unitsInRule m_askStrand m_askTied m_thoughtClaim m_thoughtNeed m_thoughtAll c_roundOf m_acts m_undone m_laid m_firstMove m_seens m_time m_waysNow m_fitting f hT hCV _) (cwV 0 hts gX9_perils_X9_standNow rfl rfl rfl (by decide +kernel) ⟨Nat.le_of_ble_eq_true rfl, Nat.le_of_ble_eq_true rfl⟩) (by decide) 9 e55 rfl rfl hl.1 rfl (Nat.le_of_ble_eq_true rfl) dX9_perils_18 ⟨Nat.le_of_ble_eq_true rfl, Nat.le_of_ble_eq_true rfl⟩ (fun r f H locs hw hP hD hS => ?_)
      obtain ⟨hrs, x62, x63, y64, hT, h65⟩ := hw
      obtain ⟨x66, rfl⟩ : ∃ q, q = r := ⟨_, rfl⟩
      have h67 := hrs
      refine lv_iload_n hx hb dX9_perils_21 rfl (lv_at hl 1 rfl) ?_
      refine tSI (As := [.int x66, .int p1]) (rest := []) ⟨hx, hb, hml, hown, hts⟩ hK hE hP hD hS hA hAB (s_X9_bit_0 l B0 adK adV D cy ad f x66 p1 (by omega) _) (va_cwS 2 hts gX9_perils_X9_bit rfl rfl rfl (by decide +kernel) ⟨Nat.le_of_ble_eq_true rfl, Nat.le_of_ble_eq_true rfl⟩) rfl hl.1 rfl (Nat.le_of_ble_eq_true rfl) dX9_perils_22 ⟨Nat.le_of_ble_eq_true rfl, Nat.le_of_ble_eq_true rfl⟩ (fun r g H locs hw hP hD hS => ?_)
      obtain ⟨hrs, rfl⟩ := hw
      obtain ⟨x68, rfl⟩ : ∃ q, q = r := ⟨_, rfl⟩
      rcases hrs with ⟨rfl, h69⟩ | ⟨rfl, h70⟩
      · refine lv_if_ne (tgt := 30) hx hb dX9_perils_25 (by decide) (fun _ => ?_) (fun c => absurd c (by decide))
        refine lv_iconst (v := 0) hx hb dX9_perils_30 (by decide) ?_
        refine lv_istore_n (lv' := [(3, .int 0), (0, .ref (ad 148)), (1, .int p1), (2, .int p2)]) hx hb dX9_perils_31 rfl hl (by decide) rfl (fun ls hl => ?_)
        refine lv_iconst (v := 1) hx hb dX9_perils_32 (by decide) ?_
        refine lv_istore (lv' := [(4, .int 1), (3, .int 0), (0, .ref (ad 148)), (1, .int p1), (2, .int p2)]) hx hb dX9_perils_33 hl (by decide) rfl (fun ls hl => ?_)
        exact j35 (Int.toNat (4097 - (1 : Int32).toInt)) f H locs ls (1 : Int32) (0 : Int32) x62 x63 y64 (by omega) (by omega) (by omega) (by omega) (by omega) hT hP hD hS (lv_sub hl [0, 1, 2, 3, 4] rfl)
      · refine lv_if_ne (tgt := 30) hx hb dX9_perils_25 (by decide) (fun c => absurd (by decide) c) (fun _ => ?_)
        refine lv_iconst (v := (-1)) hx hb dX9_perils_28 (by decide) ?_
        have ttl_m1 := tl_m1
        exact tI hx hb hr hlk rfl hP hS ⟨trivial, ⟨x62, x63, y64, hT⟩⟩ dX9_perils_29
    · refine lv_if_eq (tgt := 28) hx hb dX9_perils_14 (by decide) (fun _ => ?_) (fun c => absurd (by decide) c)
      refine lv_iconst (v := (-1)) hx hb dX9_perils_28 (by decide) ?_
      have ttl_m1 := tl_m1
      exact tI hx hb hr hlk rfl hP hS ⟨trivial, ⟨m_askStrand, m_askTied, c_roundOf, hT⟩⟩ dX9_perils_29
  · refine lv_if_eq (tgt := 28) hx hb dX9_perils_5 (by decide) (fun _ => ?_) (fun c => absurd (by decide) c)
    refine lv_iconst (v := (-1)) hx hb dX9_perils_28 (by decide) ?_
    have ttl_m1 := tl_m1
    exact tI hx hb hr hlk rfl hP hS ⟨trivial, ⟨m_askStrand, m_askTied, c_roundOf, hT⟩⟩ dX9_perils_29
