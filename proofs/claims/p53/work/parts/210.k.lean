set_option maxRecDepth 20000 in
theorem ggX9_mend_X9_isClaim : GoodIn wsX9_mend wsX9_isClaim := goodIn_r _ [6, 7, 8, 9, 10, 11, 5, 12, 13, 14, 15, 16, 17, 18, 19, 20, 118, 119, 120, 121, 122, 123, 124, 125, 126, 127, 128, 129, 130, 131, 132, 133, 134, 135, 136, 137, 138, 139, 140, 141, 142, 143, 144, 145, 146, 147, 148, 149, 150, 151, 152, 153, 154, 155, 156, 157, 158, 159, 160, 161, 162, 163, 164, 165, 166, 167, 168, 169, 170, 171, 172, 173, 174, 175, 176, 177, 178, 179, 180, 181] rfl rfl
set_option maxRecDepth 20000 in
theorem gX9_mend_X9_isClaim : GoodIn wsX9_mend (wsV RX9 390 RX9 yX9_isClaim wsX9_isClaim) := goodIn_app (goodIn_of _ (by decide +kernel)) ggX9_mend_X9_isClaim
set_option maxRecDepth 20000 in
theorem ggX9_mend_X9_isIn : GoodIn wsX9_mend wsX9_isIn := goodIn_r _ [20] rfl rfl
set_option maxRecDepth 20000 in
theorem gX9_mend_X9_isIn : GoodIn wsX9_mend (va_wsS RX9 346 yX9_isIn wsX9_isIn) := goodIn_app (goodIn_of _ (by decide +kernel)) ggX9_mend_X9_isIn
set_option maxRecDepth 20000 in
theorem ggX9_mend_X9_threads : GoodIn wsX9_mend wsX9_threads := goodIn_r _ [24, 25, 8, 118, 119, 120, 121, 122, 123, 124, 125, 126, 127, 128, 129, 130, 131, 132, 133, 134, 135, 136, 137, 138, 139, 140, 141, 142, 143, 144, 145, 146, 147, 148, 149, 150, 151, 152, 153, 154, 155, 156, 157, 158, 159, 160, 161, 162, 163, 164, 165, 166, 167, 168, 169, 170, 171, 172, 173, 174, 175, 176, 177, 178, 179, 180, 181] rfl rfl
set_option maxRecDepth 20000 in
theorem gX9_mend_X9_threads : GoodIn wsX9_mend (wsV RX9 350 RX9 yX9_threads wsX9_threads) := goodIn_app (goodIn_of _ (by decide +kernel)) ggX9_mend_X9_threads
set_option maxRecDepth 20000 in
theorem ggX9_mend_X9_isLess : GoodIn wsX9_mend wsX9_isLess := goodIn_r _ [28, 29, 30, 5, 31] rfl rfl
set_option maxRecDepth 20000 in
theorem gX9_mend_X9_isLess : GoodIn wsX9_mend (va_wsS RX9 436 yX9_isLess wsX9_isLess) := goodIn_app (goodIn_of _ (by decide +kernel)) ggX9_mend_X9_isLess
set_option maxRecDepth 20000 in
theorem ggX9_mend_X9_doesStand : GoodIn wsX9_mend wsX9_doesStand := goodIn_r _ [35, 36, 37, 38, 5, 39, 1, 40, 41, 42, 43, 44, 45, 46, 47, 48, 49, 50, 51, 52, 8, 21, 22, 23, 24, 25, 53, 54, 55, 56, 57, 58, 59, 60, 61, 62, 63, 64, 65, 66, 67, 68, 69, 70, 71, 72, 73, 74, 75, 76, 77, 78, 79, 80, 29, 30, 31, 81, 82, 83, 84, 85, 86, 87, 88, 89, 90, 91, 92, 93, 94, 95, 96, 7, 97, 98, 99, 100, 101, 102, 103, 104, 105, 106, 13, 14, 15, 16, 17, 107, 108, 109, 110, 9, 10, 11, 12, 18, 19, 20, 2, 3, 4, 6, 111, 112, 113, 114, 118, 119, 120, 121, 122, 123, 124, 125, 126, 127, 128, 129, 130, 131, 132, 133, 134, 135, 136, 137, 138, 139, 140, 141, 142, 143, 144, 145, 146, 147, 148, 149, 150, 151, 152, 153, 154, 155, 156, 157, 158, 159, 160, 161, 162, 163, 164, 165, 166, 167, 168, 169, 170, 171, 172, 173, 174, 175, 176, 177, 178, 179, 180, 181] rfl rfl
set_option maxRecDepth 20000 in
theorem gX9_mend_X9_doesStand : GoodIn wsX9_mend (wsV RX9 439 RX9 yX9_doesStand wsX9_doesStand) := goodIn_app (goodIn_of _ (by decide +kernel)) ggX9_mend_X9_doesStand
set_option maxRecDepth 20000 in
theorem ggX9_mend_X9_toldOf : GoodIn wsX9_mend wsX9_toldOf := goodIn_r _ [117, 29, 30, 5, 31] rfl rfl
set_option maxRecDepth 20000 in
theorem gX9_mend_X9_toldOf : GoodIn wsX9_mend (va_wsS RX9 445 yX9_toldOf wsX9_toldOf) := goodIn_app (goodIn_of _ (by decide +kernel)) ggX9_mend_X9_toldOf
theorem dX9_mend_0 : decode cX9_mend 0 = .ok (.aload_n 0, 1) := by decide +kernel
theorem dX9_mend_1 : decode cX9_mend 1 = .ok (.iload_n 1, 1) := by decide +kernel
theorem dX9_mend_2 : decode cX9_mend 2 = .ok (.invokevirtual 390, 3) := by decide +kernel
theorem dX9_mend_5 : decode cX9_mend 5 = .ok (.ifCond .eq 12, 3) := by decide +kernel
theorem dX9_mend_8 : decode cX9_mend 8 = .ok (.iload_n 2, 1) := by decide +kernel
theorem dX9_mend_9 : decode cX9_mend 9 = .ok (.iconst 0, 1) := by decide +kernel
theorem dX9_mend_10 : decode cX9_mend 10 = .ok (.iconst 1, 1) := by decide +kernel
theorem dX9_mend_11 : decode cX9_mend 11 = .ok (.invokestatic 346, 3) := by decide +kernel
theorem dX9_mend_14 : decode cX9_mend 14 = .ok (.ifCond .ne 5, 3) := by decide +kernel
theorem dX9_mend_17 : decode cX9_mend 17 = .ok (.iconst (-1), 1) := by decide +kernel
theorem dX9_mend_18 : decode cX9_mend 18 = .ok (.ireturn, 1) := by decide +kernel
theorem dX9_mend_19 : decode cX9_mend 19 = .ok (.iconst 1, 1) := by decide +kernel
theorem dX9_mend_20 : decode cX9_mend 20 = .ok (.aload_n 0, 1) := by decide +kernel
theorem dX9_mend_21 : decode cX9_mend 21 = .ok (.invokevirtual 350, 3) := by decide +kernel
theorem dX9_mend_24 : decode cX9_mend 24 = .ok (.ishl, 1) := by decide +kernel
theorem dX9_mend_25 : decode cX9_mend 25 = .ok (.iconst 1, 1) := by decide +kernel
theorem dX9_mend_26 : decode cX9_mend 26 = .ok (.isub, 1) := by decide +kernel
theorem dX9_mend_27 : decode cX9_mend 27 = .ok (.aload_n 0, 1) := by decide +kernel
theorem dX9_mend_28 : decode cX9_mend 28 = .ok (.getfield 76, 3) := by decide +kernel
theorem dX9_mend_31 : decode cX9_mend 31 = .ok (.iconst 1, 1) := by decide +kernel
theorem dX9_mend_32 : decode cX9_mend 32 = .ok (.iaload, 1) := by decide +kernel
theorem dX9_mend_33 : decode cX9_mend 33 = .ok (.iconst (-1), 1) := by decide +kernel
theorem dX9_mend_34 : decode cX9_mend 34 = .ok (.ixor, 1) := by decide +kernel
theorem dX9_mend_35 : decode cX9_mend 35 = .ok (.iand, 1) := by decide +kernel
theorem dX9_mend_36 : decode cX9_mend 36 = .ok (.istore_n 3, 1) := by decide +kernel
theorem dX9_mend_37 : decode cX9_mend 37 = .ok (.iconst (-1), 1) := by decide +kernel
theorem dX9_mend_38 : decode cX9_mend 38 = .ok (.istore 4, 2) := by decide +kernel
theorem dX9_mend_40 : decode cX9_mend 40 = .ok (.iconst 0, 1) := by decide +kernel
theorem dX9_mend_41 : decode cX9_mend 41 = .ok (.istore 5, 2) := by decide +kernel
theorem dX9_mend_43 : decode cX9_mend 43 = .ok (.iload 5, 2) := by decide +kernel
theorem dX9_mend_45 : decode cX9_mend 45 = .ok (.iload_n 3, 1) := by decide +kernel
theorem dX9_mend_46 : decode cX9_mend 46 = .ok (.if_icmp .gt 49, 3) := by decide +kernel
theorem dX9_mend_49 : decode cX9_mend 49 = .ok (.iload 5, 2) := by decide +kernel
theorem dX9_mend_51 : decode cX9_mend 51 = .ok (.iload_n 3, 1) := by decide +kernel
theorem dX9_mend_52 : decode cX9_mend 52 = .ok (.iconst (-1), 1) := by decide +kernel
theorem dX9_mend_53 : decode cX9_mend 53 = .ok (.ixor, 1) := by decide +kernel
theorem dX9_mend_54 : decode cX9_mend 54 = .ok (.iand, 1) := by decide +kernel
theorem dX9_mend_55 : decode cX9_mend 55 = .ok (.ifCond .ne 34, 3) := by decide +kernel
theorem dX9_mend_58 : decode cX9_mend 58 = .ok (.iload 5, 2) := by decide +kernel
theorem dX9_mend_60 : decode cX9_mend 60 = .ok (.iload 4, 2) := by decide +kernel
theorem dX9_mend_62 : decode cX9_mend 62 = .ok (.invokestatic 436, 3) := by decide +kernel
theorem dX9_mend_65 : decode cX9_mend 65 = .ok (.ifCond .eq 24, 3) := by decide +kernel
theorem dX9_mend_68 : decode cX9_mend 68 = .ok (.aload_n 0, 1) := by decide +kernel
theorem dX9_mend_69 : decode cX9_mend 69 = .ok (.iload_n 1, 1) := by decide +kernel
theorem dX9_mend_70 : decode cX9_mend 70 = .ok (.aload_n 0, 1) := by decide +kernel
theorem dX9_mend_71 : decode cX9_mend 71 = .ok (.getfield 76, 3) := by decide +kernel
theorem dX9_mend_74 : decode cX9_mend 74 = .ok (.iconst 1, 1) := by decide +kernel
theorem dX9_mend_75 : decode cX9_mend 75 = .ok (.iaload, 1) := by decide +kernel
theorem dX9_mend_76 : decode cX9_mend 76 = .ok (.iload 5, 2) := by decide +kernel
theorem dX9_mend_78 : decode cX9_mend 78 = .ok (.ior, 1) := by decide +kernel
theorem dX9_mend_79 : decode cX9_mend 79 = .ok (.invokevirtual 439, 3) := by decide +kernel
theorem dX9_mend_82 : decode cX9_mend 82 = .ok (.ifCond .eq 7, 3) := by decide +kernel
theorem dX9_mend_85 : decode cX9_mend 85 = .ok (.iload 5, 2) := by decide +kernel
theorem dX9_mend_87 : decode cX9_mend 87 = .ok (.istore 4, 2) := by decide +kernel
theorem dX9_mend_89 : decode cX9_mend 89 = .ok (.iinc 5 1, 3) := by decide +kernel
theorem dX9_mend_92 : decode cX9_mend 92 = .ok (.goto (-49), 3) := by decide +kernel
theorem dX9_mend_95 : decode cX9_mend 95 = .ok (.iload 4, 2) := by decide +kernel
theorem dX9_mend_97 : decode cX9_mend 97 = .ok (.iload_n 2, 1) := by decide +kernel
theorem dX9_mend_98 : decode cX9_mend 98 = .ok (.invokestatic 445, 3) := by decide +kernel
theorem dX9_mend_101 : decode cX9_mend 101 = .ok (.ireturn, 1) := by decide +kernel
set_option maxRecDepth 20000 in
theorem ggX9_shock_X9_isIn : GoodIn wsX9_shock wsX9_isIn := goodIn_r _ [5] rfl rfl
set_option maxRecDepth 20000 in
theorem gX9_shock_X9_isIn : GoodIn wsX9_shock (va_wsS RX9 346 yX9_isIn wsX9_isIn) := goodIn_app (goodIn_of _ (by decide +kernel)) ggX9_shock_X9_isIn
set_option maxRecDepth 20000 in
theorem ggX9_shock_X9_keepNow : GoodIn wsX9_shock wsX9_keepNow := goodIn_r _ [9, 10, 1, 125, 126, 127, 128, 129, 130, 131, 132, 133, 134, 135, 136, 137, 138, 139, 140, 141, 142, 143, 144, 145, 146, 147, 148, 149, 150, 151, 152, 153, 154, 155, 156, 157, 158, 159, 160, 161, 162, 163, 164, 165, 166, 167, 168, 169, 170, 171, 172, 173, 174, 175, 176, 177, 178, 179, 180, 181, 182, 183, 184, 185, 186, 187, 188] rfl rfl
set_option maxRecDepth 20000 in
theorem gX9_shock_X9_keepNow : GoodIn wsX9_shock (wsV RX9 430 RX9 yX9_keepNow wsX9_keepNow) := goodIn_app (goodIn_of _ (by decide +kernel)) ggX9_shock_X9_keepNow
set_option maxRecDepth 20000 in
theorem ggX9_shock_X9_threads : GoodIn wsX9_shock wsX9_threads := goodIn_r _ [14, 15, 16, 125, 126, 127, 128, 129, 130, 131, 132, 133, 134, 135, 136, 137, 138, 139, 140, 141, 142, 143, 144, 145, 146, 147, 148, 149, 150, 151, 152, 153, 154, 155, 156, 157, 158, 159, 160, 161, 162, 163, 164, 165, 166, 167, 168, 169, 170, 171, 172, 173, 174, 175, 176, 177, 178, 179, 180, 181, 182, 183, 184, 185, 186, 187, 188] rfl rfl
set_option maxRecDepth 20000 in
theorem gX9_shock_X9_threads : GoodIn wsX9_shock (wsV RX9 350 RX9 yX9_threads wsX9_threads) := goodIn_app (goodIn_of _ (by decide +kernel)) ggX9_shock_X9_threads
set_option maxRecDepth 20000 in
theorem ggX9_shock_X9_held : GoodIn wsX9_shock wsX9_held := goodIn_r _ [19] rfl rfl
set_option maxRecDepth 20000 in
theorem gX9_shock_X9_held : GoodIn wsX9_shock (va_wsS RX9 383 yX9_held wsX9_held) := goodIn_app (goodIn_of _ (by decide +kernel)) ggX9_shock_X9_held
set_option maxRecDepth 20000 in
theorem ggX9_shock_X9_claimsNow : GoodIn wsX9_shock wsX9_claimsNow := goodIn_r _ [23, 24, 25, 26, 4, 27, 1, 28, 29, 30, 31, 32, 33, 34, 35, 36, 37, 38, 39, 40, 16, 11, 12, 13, 14, 15, 41, 42, 43, 44, 45, 46, 47, 48, 49, 50, 51, 52, 53, 54, 55, 56, 57, 58, 59, 60, 61, 62, 63, 64, 65, 66, 67, 68, 69, 70, 71, 72, 73, 74, 75, 76, 77, 78, 79, 80, 81, 82, 83, 84, 85, 86, 87, 88, 89, 90, 91, 17, 18, 19, 92, 93, 94, 95, 96, 97, 98, 99, 100, 101, 102, 103, 104, 105, 106, 107, 108, 2, 3, 5, 109, 110, 111, 112, 113, 114, 115, 116, 117, 118, 119, 120, 125, 126, 127, 128, 129, 130, 131, 132, 133, 134, 135, 136, 137, 138, 139, 140, 141, 142, 143, 144, 145, 146, 147, 148, 149, 150, 151, 152, 153, 154, 155, 156, 157, 158, 159, 160, 161, 162, 163, 164, 165, 166, 167, 168, 169, 170, 171, 172, 173, 174, 175, 176, 177, 178, 179, 180, 181, 182, 183, 184, 185, 186, 187, 188] rfl rfl
set_option maxRecDepth 20000 in
theorem gX9_shock_X9_claimsNow : GoodIn wsX9_shock (wsV RX9 417 RX9 yX9_claimsNow wsX9_claimsNow) := goodIn_app (goodIn_of _ (by decide +kernel)) ggX9_shock_X9_claimsNow
set_option maxRecDepth 20000 in
theorem ggX9_shock_X9_bringBack : GoodIn wsX9_shock wsX9_bringBack := goodIn_r _ [124, 1, 10, 125, 126, 127, 128, 129, 130, 131, 132, 133, 134, 135, 136, 137, 138, 139, 140, 141, 142, 143, 144, 145, 146, 147, 148, 149, 150, 151, 152, 153, 154, 155, 156, 157, 158, 159, 160, 161, 162, 163, 164, 165, 166, 167, 168, 169, 170, 171, 172, 173, 174, 175, 176, 177, 178, 179, 180, 181, 182, 183, 184, 185, 186, 187, 188] rfl rfl
set_option maxRecDepth 20000 in
theorem gX9_shock_X9_bringBack : GoodIn wsX9_shock (wsV RX9 433 RX9 yX9_bringBack wsX9_bringBack) := goodIn_app (goodIn_of _ (by decide +kernel)) ggX9_shock_X9_bringBack
theorem dX9_shock_0 : decode cX9_shock 0 = .ok (.iload_n 1, 1) := by decide +kernel
theorem dX9_shock_1 : decode cX9_shock 1 = .ok (.iconst 0, 1) := by decide +kernel
theorem dX9_shock_2 : decode cX9_shock 2 = .ok (.bipush 20, 2) := by decide +kernel
theorem dX9_shock_4 : decode cX9_shock 4 = .ok (.invokestatic 346, 3) := by decide +kernel
theorem dX9_shock_7 : decode cX9_shock 7 = .ok (.ifCond .ne 5, 3) := by decide +kernel
theorem dX9_shock_10 : decode cX9_shock 10 = .ok (.iconst (-1), 1) := by decide +kernel
theorem dX9_shock_11 : decode cX9_shock 11 = .ok (.ireturn, 1) := by decide +kernel
theorem dX9_shock_12 : decode cX9_shock 12 = .ok (.aload_n 0, 1) := by decide +kernel
theorem dX9_shock_13 : decode cX9_shock 13 = .ok (.invokevirtual 430, 3) := by decide +kernel
theorem dX9_shock_16 : decode cX9_shock 16 = .ok (.iconst 0, 1) := by decide +kernel
theorem dX9_shock_17 : decode cX9_shock 17 = .ok (.istore_n 2, 1) := by decide +kernel
theorem dX9_shock_18 : decode cX9_shock 18 = .ok (.iload_n 2, 1) := by decide +kernel
theorem dX9_shock_19 : decode cX9_shock 19 = .ok (.aload_n 0, 1) := by decide +kernel
theorem dX9_shock_20 : decode cX9_shock 20 = .ok (.invokevirtual 350, 3) := by decide +kernel
theorem dX9_shock_23 : decode cX9_shock 23 = .ok (.if_icmp .ge 33, 3) := by decide +kernel
theorem dX9_shock_26 : decode cX9_shock 26 = .ok (.aload_n 0, 1) := by decide +kernel
theorem dX9_shock_27 : decode cX9_shock 27 = .ok (.getfield 76, 3) := by decide +kernel
theorem dX9_shock_30 : decode cX9_shock 30 = .ok (.iconst 2, 1) := by decide +kernel
theorem dX9_shock_31 : decode cX9_shock 31 = .ok (.iload_n 2, 1) := by decide +kernel
theorem dX9_shock_32 : decode cX9_shock 32 = .ok (.iadd, 1) := by decide +kernel
theorem dX9_shock_33 : decode cX9_shock 33 = .ok (.aload_n 0, 1) := by decide +kernel
theorem dX9_shock_34 : decode cX9_shock 34 = .ok (.getfield 76, 3) := by decide +kernel
theorem dX9_shock_37 : decode cX9_shock 37 = .ok (.iconst 2, 1) := by decide +kernel
theorem dX9_shock_38 : decode cX9_shock 38 = .ok (.iload_n 2, 1) := by decide +kernel
theorem dX9_shock_39 : decode cX9_shock 39 = .ok (.iadd, 1) := by decide +kernel
theorem dX9_shock_40 : decode cX9_shock 40 = .ok (.iaload, 1) := by decide +kernel
theorem dX9_shock_41 : decode cX9_shock 41 = .ok (.iload_n 1, 1) := by decide +kernel
theorem dX9_shock_42 : decode cX9_shock 42 = .ok (.isub, 1) := by decide +kernel
theorem dX9_shock_43 : decode cX9_shock 43 = .ok (.iconst 0, 1) := by decide +kernel
theorem dX9_shock_44 : decode cX9_shock 44 = .ok (.bipush 20, 2) := by decide +kernel
theorem dX9_shock_46 : decode cX9_shock 46 = .ok (.invokestatic 383, 3) := by decide +kernel
theorem dX9_shock_49 : decode cX9_shock 49 = .ok (.iastore, 1) := by decide +kernel
theorem dX9_shock_50 : decode cX9_shock 50 = .ok (.iinc 2 1, 3) := by decide +kernel
theorem dX9_shock_53 : decode cX9_shock 53 = .ok (.goto (-35), 3) := by decide +kernel
theorem dX9_shock_56 : decode cX9_shock 56 = .ok (.aload_n 0, 1) := by decide +kernel
theorem dX9_shock_57 : decode cX9_shock 57 = .ok (.invokevirtual 417, 3) := by decide +kernel
theorem dX9_shock_60 : decode cX9_shock 60 = .ok (.istore_n 2, 1) := by decide +kernel
theorem dX9_shock_61 : decode cX9_shock 61 = .ok (.aload_n 0, 1) := by decide +kernel
theorem dX9_shock_62 : decode cX9_shock 62 = .ok (.invokevirtual 433, 3) := by decide +kernel
theorem dX9_shock_65 : decode cX9_shock 65 = .ok (.iload_n 2, 1) := by decide +kernel
theorem dX9_shock_66 : decode cX9_shock 66 = .ok (.ireturn, 1) := by decide +kernel
set_option maxRecDepth 20000 in
theorem ggX9_proof_X9_isClaim : GoodIn wsX9_proof wsX9_isClaim := goodIn_r _ [8, 9, 10, 11, 12, 13, 7, 14, 15, 16, 17, 18, 19, 20, 21, 22, 125, 126, 127, 128, 129, 130, 131, 132, 133, 134, 135, 136, 137, 138, 139, 140, 141, 142, 143, 144, 145, 146, 147, 148, 149, 150, 151, 152, 153, 154, 155, 156, 157, 158, 159, 160, 161, 162, 163, 164, 165, 166, 167, 168, 169, 170, 171, 172, 173, 174, 175, 176, 177, 178, 179, 180, 181, 182, 183, 184, 185, 186, 187, 188] rfl rfl
set_option maxRecDepth 20000 in
theorem gX9_proof_X9_isClaim : GoodIn wsX9_proof (wsV RX9 390 RX9 yX9_isClaim wsX9_isClaim) := goodIn_app (goodIn_of _ (by decide +kernel)) ggX9_proof_X9_isClaim
set_option maxRecDepth 20000 in
theorem ggX9_proof_X9_propOf : GoodIn wsX9_proof wsX9_propOf := goodIn_r _ [26, 27, 28, 29, 30, 7, 31, 32, 33, 34, 35, 2, 36, 37, 38, 39, 40, 41, 42, 43, 10, 44, 45, 46, 47, 48, 49, 50, 51, 52, 53, 54, 55, 56, 57, 58, 59, 60, 61, 62, 63, 64, 65, 66, 67, 68, 69, 70, 71, 72, 73, 74, 75, 76, 77, 78, 79, 80, 81, 82, 83, 84, 85, 86, 87, 88, 89, 90, 91, 92, 93, 94, 95, 9, 96, 97, 98, 99, 100, 101, 102, 103, 104, 105, 15, 16, 17, 18, 19, 106, 107, 108, 109, 11, 12, 13, 14, 20, 21, 22, 4, 5, 6, 8, 110, 111, 112, 113, 114, 115, 116, 117, 118, 119, 120, 121, 122, 123, 124, 125, 126, 127, 128, 129, 130, 131, 132, 133, 134, 135, 136, 137, 138, 139, 140, 141, 142, 143, 144, 145, 146, 147, 148, 149, 150, 151, 152, 153, 154, 155, 156, 157, 158, 159, 160, 161, 162, 163, 164, 165, 166, 167, 168, 169, 170, 171, 172, 173, 174, 175, 176, 177, 178, 179, 180, 181, 182, 183, 184, 185, 186, 187, 188] rfl rfl
set_option maxRecDepth 20000 in
theorem gX9_proof_X9_propOf : GoodIn wsX9_proof (wsV RX9 448 RX9 yX9_propOf wsX9_propOf) := goodIn_app (goodIn_of _ (by decide +kernel)) ggX9_proof_X9_propOf
set_option maxRecDepth 20000 in
theorem ggX9_proof_X9_standWith : GoodIn wsX9_proof wsX9_standWith := goodIn_r _ [124, 27, 32, 33, 34, 7, 35, 2, 36, 37, 38, 39, 40, 41, 42, 43, 10, 44, 45, 46, 47, 48, 49, 50, 51, 52, 53, 54, 55, 56, 57, 58, 59, 60, 61, 62, 63, 64, 65, 66, 67, 68, 69, 70, 71, 72, 73, 74, 75, 76, 77, 78, 79, 80, 81, 82, 83, 84, 85, 86, 87, 88, 89, 90, 91, 92, 93, 94, 95, 9, 96, 97, 98, 99, 100, 101, 102, 103, 104, 105, 15, 16, 17, 18, 19, 106, 107, 108, 109, 11, 12, 13, 14, 20, 21, 22, 4, 5, 6, 8, 110, 111, 112, 113, 125, 126, 127, 128, 129, 130, 131, 132, 133, 134, 135, 136, 137, 138, 139, 140, 141, 142, 143, 144, 145, 146, 147, 148, 149, 150, 151, 152, 153, 154, 155, 156, 157, 158, 159, 160, 161, 162, 163, 164, 165, 166, 167, 168, 169, 170, 171, 172, 173, 174, 175, 176, 177, 178, 179, 180, 181, 182, 183, 184, 185, 186, 187, 188] rfl rfl
set_option maxRecDepth 20000 in
theorem gX9_proof_X9_standWith : GoodIn wsX9_proof (wsV RX9 399 RX9 yX9_standWith wsX9_standWith) := goodIn_app (goodIn_of _ (by decide +kernel)) ggX9_proof_X9_standWith
set_option maxRecDepth 20000 in
theorem ggX9_proof_X9_many : GoodIn wsX9_proof wsX9_many := goodIn_r _ [18, 19, 10, 125, 126, 127, 128, 129, 130, 131, 132, 133, 134, 135, 136, 137, 138, 139, 140, 141, 142, 143, 144, 145, 146, 147, 148, 149, 150, 151, 152, 153, 154, 155, 156, 157, 158, 159, 160, 161, 162, 163, 164, 165, 166, 167, 168, 169, 170, 171, 172, 173, 174, 175, 176, 177, 178, 179, 180, 181, 182, 183, 184, 185, 186, 187, 188] rfl rfl
set_option maxRecDepth 20000 in
theorem gX9_proof_X9_many : GoodIn wsX9_proof (wsV RX9 343 RX9 yX9_many wsX9_many) := goodIn_app (goodIn_of _ (by decide +kernel)) ggX9_proof_X9_many
set_option maxRecDepth 20000 in
theorem ggX9_proof_X9_bit : GoodIn wsX9_proof wsX9_bit := goodIn_r _ [51] rfl rfl
set_option maxRecDepth 20000 in
theorem gX9_proof_X9_bit : GoodIn wsX9_proof (va_wsS RX9 245 yX9_bit wsX9_bit) := goodIn_app (goodIn_of _ (by decide +kernel)) ggX9_proof_X9_bit
theorem dX9_proof_0 : decode cX9_proof 0 = .ok (.aload_n 0, 1) := by decide +kernel
theorem dX9_proof_1 : decode cX9_proof 1 = .ok (.iconst 0, 1) := by decide +kernel
theorem dX9_proof_2 : decode cX9_proof 2 = .ok (.putfield 377, 3) := by decide +kernel
theorem dX9_proof_5 : decode cX9_proof 5 = .ok (.aload_n 0, 1) := by decide +kernel
theorem dX9_proof_6 : decode cX9_proof 6 = .ok (.iload_n 1, 1) := by decide +kernel
theorem dX9_proof_7 : decode cX9_proof 7 = .ok (.invokevirtual 390, 3) := by decide +kernel
theorem dX9_proof_10 : decode cX9_proof 10 = .ok (.ifCond .ne 5, 3) := by decide +kernel
theorem dX9_proof_13 : decode cX9_proof 13 = .ok (.iconst (-1), 1) := by decide +kernel
theorem dX9_proof_14 : decode cX9_proof 14 = .ok (.ireturn, 1) := by decide +kernel
theorem dX9_proof_15 : decode cX9_proof 15 = .ok (.aload_n 0, 1) := by decide +kernel
theorem dX9_proof_16 : decode cX9_proof 16 = .ok (.iload_n 1, 1) := by decide +kernel
theorem dX9_proof_17 : decode cX9_proof 17 = .ok (.invokevirtual 448, 3) := by decide +kernel
theorem dX9_proof_20 : decode cX9_proof 20 = .ok (.istore_n 2, 1) := by decide +kernel
theorem dX9_proof_21 : decode cX9_proof 21 = .ok (.iload_n 2, 1) := by decide +kernel
theorem dX9_proof_22 : decode cX9_proof 22 = .ok (.ifCond .ge 5, 3) := by decide +kernel
theorem dX9_proof_25 : decode cX9_proof 25 = .ok (.iconst (-1), 1) := by decide +kernel
theorem dX9_proof_26 : decode cX9_proof 26 = .ok (.ireturn, 1) := by decide +kernel
theorem dX9_proof_27 : decode cX9_proof 27 = .ok (.aload_n 0, 1) := by decide +kernel
theorem dX9_proof_28 : decode cX9_proof 28 = .ok (.iload_n 2, 1) := by decide +kernel
theorem dX9_proof_29 : decode cX9_proof 29 = .ok (.invokevirtual 399, 3) := by decide +kernel
theorem dX9_proof_32 : decode cX9_proof 32 = .ok (.istore_n 3, 1) := by decide +kernel
theorem dX9_proof_33 : decode cX9_proof 33 = .ok (.iconst 0, 1) := by decide +kernel
theorem dX9_proof_34 : decode cX9_proof 34 = .ok (.istore 4, 2) := by decide +kernel
theorem dX9_proof_36 : decode cX9_proof 36 = .ok (.iload 4, 2) := by decide +kernel
theorem dX9_proof_38 : decode cX9_proof 38 = .ok (.aload_n 0, 1) := by decide +kernel
theorem dX9_proof_39 : decode cX9_proof 39 = .ok (.invokevirtual 343, 3) := by decide +kernel
theorem dX9_proof_42 : decode cX9_proof 42 = .ok (.if_icmp .gt 72, 3) := by decide +kernel
theorem dX9_proof_45 : decode cX9_proof 45 = .ok (.iconst 0, 1) := by decide +kernel
theorem dX9_proof_46 : decode cX9_proof 46 = .ok (.istore 5, 2) := by decide +kernel
theorem dX9_proof_48 : decode cX9_proof 48 = .ok (.iload 5, 2) := by decide +kernel
theorem dX9_proof_50 : decode cX9_proof 50 = .ok (.aload_n 0, 1) := by decide +kernel
theorem dX9_proof_51 : decode cX9_proof 51 = .ok (.invokevirtual 343, 3) := by decide +kernel
theorem dX9_proof_54 : decode cX9_proof 54 = .ok (.if_icmp .ge 54, 3) := by decide +kernel
theorem dX9_proof_57 : decode cX9_proof 57 = .ok (.iload_n 3, 1) := by decide +kernel
theorem dX9_proof_58 : decode cX9_proof 58 = .ok (.iload 5, 2) := by decide +kernel
theorem dX9_proof_60 : decode cX9_proof 60 = .ok (.invokestatic 245, 3) := by decide +kernel
theorem dX9_proof_63 : decode cX9_proof 63 = .ok (.ifCond .eq 39, 3) := by decide +kernel
theorem dX9_proof_66 : decode cX9_proof 66 = .ok (.aload_n 0, 1) := by decide +kernel
theorem dX9_proof_67 : decode cX9_proof 67 = .ok (.getfield 91, 3) := by decide +kernel
theorem dX9_proof_70 : decode cX9_proof 70 = .ok (.iload 5, 2) := by decide +kernel
theorem dX9_proof_72 : decode cX9_proof 72 = .ok (.iaload, 1) := by decide +kernel
theorem dX9_proof_73 : decode cX9_proof 73 = .ok (.iload 4, 2) := by decide +kernel
theorem dX9_proof_75 : decode cX9_proof 75 = .ok (.if_icmp .eq 6, 3) := by decide +kernel
theorem dX9_proof_78 : decode cX9_proof 78 = .ok (.goto 24, 3) := by decide +kernel
theorem dX9_proof_81 : decode cX9_proof 81 = .ok (.aload_n 0, 1) := by decide +kernel
theorem dX9_proof_82 : decode cX9_proof 82 = .ok (.getfield 97, 3) := by decide +kernel
theorem dX9_proof_85 : decode cX9_proof 85 = .ok (.aload_n 0, 1) := by decide +kernel
theorem dX9_proof_86 : decode cX9_proof 86 = .ok (.getfield 377, 3) := by decide +kernel
theorem dX9_proof_89 : decode cX9_proof 89 = .ok (.iload 5, 2) := by decide +kernel
theorem dX9_proof_91 : decode cX9_proof 91 = .ok (.iastore, 1) := by decide +kernel
theorem dX9_proof_92 : decode cX9_proof 92 = .ok (.aload_n 0, 1) := by decide +kernel
theorem dX9_proof_93 : decode cX9_proof 93 = .ok (.dup, 1) := by decide +kernel
theorem dX9_proof_94 : decode cX9_proof 94 = .ok (.getfield 377, 3) := by decide +kernel
theorem dX9_proof_97 : decode cX9_proof 97 = .ok (.iconst 1, 1) := by decide +kernel
theorem dX9_proof_98 : decode cX9_proof 98 = .ok (.iadd, 1) := by decide +kernel
theorem dX9_proof_99 : decode cX9_proof 99 = .ok (.putfield 377, 3) := by decide +kernel
theorem dX9_proof_102 : decode cX9_proof 102 = .ok (.iinc 5 1, 3) := by decide +kernel
theorem dX9_proof_105 : decode cX9_proof 105 = .ok (.goto (-57), 3) := by decide +kernel
theorem dX9_proof_108 : decode cX9_proof 108 = .ok (.iinc 4 1, 3) := by decide +kernel
theorem dX9_proof_111 : decode cX9_proof 111 = .ok (.goto (-75), 3) := by decide +kernel
theorem dX9_proof_114 : decode cX9_proof 114 = .ok (.aload_n 0, 1) := by decide +kernel
theorem dX9_proof_115 : decode cX9_proof 115 = .ok (.getfield 377, 3) := by decide +kernel
theorem dX9_proof_118 : decode cX9_proof 118 = .ok (.ireturn, 1) := by decide +kernel
set_option maxRecDepth 20000 in
theorem ggX9_path_X9_isPoint : GoodIn wsX9_path wsX9_isPoint := goodIn_r _ [5, 6, 7, 8, 4, 9, 10, 11, 12, 13, 14, 43, 44, 45, 46, 47, 48, 49, 50, 51, 52, 53, 54, 55, 56, 57, 58, 59, 60, 61, 62, 63, 64, 65, 66, 67, 68, 69, 70, 71, 72, 73, 74, 75, 76, 77, 78, 79, 80, 81, 82, 83, 84, 85, 86, 87, 88, 89, 90, 91, 92, 93, 94, 95, 96, 97, 98, 99, 100, 101, 102, 103, 104, 105, 106] rfl rfl
set_option maxRecDepth 20000 in
theorem gX9_path_X9_isPoint : GoodIn wsX9_path (wsV RX9 353 RX9 yX9_isPoint wsX9_isPoint) := goodIn_app (goodIn_of _ (by decide +kernel)) ggX9_path_X9_isPoint
set_option maxRecDepth 20000 in
theorem ggX9_path_X9_isClaim : GoodIn wsX9_path wsX9_isClaim := goodIn_r _ [18, 19, 11, 1, 2, 3, 4, 5, 6, 7, 8, 9, 10, 12, 13, 14, 43, 44, 45, 46, 47, 48, 49, 50, 51, 52, 53, 54, 55, 56, 57, 58, 59, 60, 61, 62, 63, 64, 65, 66, 67, 68, 69, 70, 71, 72, 73, 74, 75, 76, 77, 78, 79, 80, 81, 82, 83, 84, 85, 86, 87, 88, 89, 90, 91, 92, 93, 94, 95, 96, 97, 98, 99, 100, 101, 102, 103, 104, 105, 106] rfl rfl
set_option maxRecDepth 20000 in
theorem gX9_path_X9_isClaim : GoodIn wsX9_path (wsV RX9 390 RX9 yX9_isClaim wsX9_isClaim) := goodIn_app (goodIn_of _ (by decide +kernel)) ggX9_path_X9_isClaim
set_option maxRecDepth 20000 in
theorem ggX9_path_X9_many : GoodIn wsX9_path wsX9_many := goodIn_r _ [9, 10, 11, 43, 44, 45, 46, 47, 48, 49, 50, 51, 52, 53, 54, 55, 56, 57, 58, 59, 60, 61, 62, 63, 64, 65, 66, 67, 68, 69, 70, 71, 72, 73, 74, 75, 76, 77, 78, 79, 80, 81, 82, 83, 84, 85, 86, 87, 88, 89, 90, 91, 92, 93, 94, 95, 96, 97, 98, 99, 100, 101, 102, 103, 104, 105, 106] rfl rfl
set_option maxRecDepth 20000 in
theorem gX9_path_X9_many : GoodIn wsX9_path (wsV RX9 343 RX9 yX9_many wsX9_many) := goodIn_app (goodIn_of _ (by decide +kernel)) ggX9_path_X9_many
set_option maxRecDepth 20000 in
theorem ggX9_path_X9_bit : GoodIn wsX9_path wsX9_bit := goodIn_r _ [22] rfl rfl
set_option maxRecDepth 20000 in
theorem gX9_path_X9_bit : GoodIn wsX9_path (va_wsS RX9 245 yX9_bit wsX9_bit) := goodIn_app (goodIn_of _ (by decide +kernel)) ggX9_path_X9_bit
set_option maxRecDepth 20000 in
theorem ggX9_path_X9_behind : GoodIn wsX9_path wsX9_behind := goodIn_r _ [26, 27, 28, 29, 30, 4, 31, 32, 11, 20, 21, 22, 33, 34, 35, 36, 37, 38, 39, 40, 41, 42, 43, 44, 45, 46, 47, 48, 49, 50, 51, 52, 53, 54, 55, 56, 57, 58, 59, 60, 61, 62, 63, 64, 65, 66, 67, 68, 69, 70, 71, 72, 73, 74, 75, 76, 77, 78, 79, 80, 81, 82, 83, 84, 85, 86, 87, 88, 89, 90, 91, 92, 93, 94, 95, 96, 97, 98, 99, 100, 101, 102, 103, 104, 105, 106] rfl rfl
set_option maxRecDepth 20000 in
theorem gX9_path_X9_behind : GoodIn wsX9_path (wsV RX9 454 RX9 yX9_behind wsX9_behind) := goodIn_app (goodIn_of _ (by decide +kernel)) ggX9_path_X9_behind
theorem dX9_path_0 : decode cX9_path 0 = .ok (.aload_n 0, 1) := by decide +kernel
theorem dX9_path_1 : decode cX9_path 1 = .ok (.iload_n 1, 1) := by decide +kernel
theorem dX9_path_2 : decode cX9_path 2 = .ok (.invokevirtual 353, 3) := by decide +kernel
theorem dX9_path_5 : decode cX9_path 5 = .ok (.ifCond .eq 11, 3) := by decide +kernel
theorem dX9_path_8 : decode cX9_path 8 = .ok (.aload_n 0, 1) := by decide +kernel
theorem dX9_path_9 : decode cX9_path 9 = .ok (.iload_n 2, 1) := by decide +kernel
theorem dX9_path_10 : decode cX9_path 10 = .ok (.invokevirtual 390, 3) := by decide +kernel
theorem dX9_path_13 : decode cX9_path 13 = .ok (.ifCond .ne 5, 3) := by decide +kernel
theorem dX9_path_16 : decode cX9_path 16 = .ok (.iconst (-1), 1) := by decide +kernel
theorem dX9_path_17 : decode cX9_path 17 = .ok (.ireturn, 1) := by decide +kernel
theorem dX9_path_18 : decode cX9_path 18 = .ok (.iconst 1, 1) := by decide +kernel
theorem dX9_path_19 : decode cX9_path 19 = .ok (.iload_n 2, 1) := by decide +kernel
theorem dX9_path_20 : decode cX9_path 20 = .ok (.ishl, 1) := by decide +kernel
theorem dX9_path_21 : decode cX9_path 21 = .ok (.istore_n 3, 1) := by decide +kernel
theorem dX9_path_22 : decode cX9_path 22 = .ok (.iconst 0, 1) := by decide +kernel
theorem dX9_path_23 : decode cX9_path 23 = .ok (.istore 4, 2) := by decide +kernel
theorem dX9_path_25 : decode cX9_path 25 = .ok (.iload 4, 2) := by decide +kernel
theorem dX9_path_27 : decode cX9_path 27 = .ok (.aload_n 0, 1) := by decide +kernel
theorem dX9_path_28 : decode cX9_path 28 = .ok (.invokevirtual 343, 3) := by decide +kernel
theorem dX9_path_31 : decode cX9_path 31 = .ok (.if_icmp .ge 26, 3) := by decide +kernel
theorem dX9_path_34 : decode cX9_path 34 = .ok (.iload_n 3, 1) := by decide +kernel
theorem dX9_path_35 : decode cX9_path 35 = .ok (.iload_n 1, 1) := by decide +kernel
theorem dX9_path_36 : decode cX9_path 36 = .ok (.invokestatic 245, 3) := by decide +kernel
theorem dX9_path_39 : decode cX9_path 39 = .ok (.ifCond .eq 6, 3) := by decide +kernel
theorem dX9_path_42 : decode cX9_path 42 = .ok (.iload 4, 2) := by decide +kernel
theorem dX9_path_44 : decode cX9_path 44 = .ok (.ireturn, 1) := by decide +kernel
theorem dX9_path_45 : decode cX9_path 45 = .ok (.aload_n 0, 1) := by decide +kernel
theorem dX9_path_46 : decode cX9_path 46 = .ok (.iload_n 3, 1) := by decide +kernel
theorem dX9_path_47 : decode cX9_path 47 = .ok (.invokevirtual 454, 3) := by decide +kernel
theorem dX9_path_50 : decode cX9_path 50 = .ok (.istore_n 3, 1) := by decide +kernel
theorem dX9_path_51 : decode cX9_path 51 = .ok (.iinc 4 1, 3) := by decide +kernel
theorem dX9_path_54 : decode cX9_path 54 = .ok (.goto (-29), 3) := by decide +kernel
theorem dX9_path_57 : decode cX9_path 57 = .ok (.iconst (-1), 1) := by decide +kernel
theorem dX9_path_58 : decode cX9_path 58 = .ok (.ireturn, 1) := by decide +kernel
set_option maxRecDepth 20000 in
theorem ggX9_layGains_X9_bit : GoodIn wsX9_layGains wsX9_bit := goodIn_r _ [6] rfl rfl
set_option maxRecDepth 20000 in
theorem gX9_layGains_X9_bit : GoodIn wsX9_layGains (va_wsS RX9 245 yX9_bit wsX9_bit) := goodIn_app (goodIn_of _ (by decide +kernel)) ggX9_layGains_X9_bit
set_option maxRecDepth 20000 in
theorem ggX9_layGains_X9_standWith : GoodIn wsX9_layGains wsX9_standWith := goodIn_r _ [10, 1, 11, 12, 13, 5, 14, 15, 16, 17, 18, 19, 20, 21, 22, 23, 24, 25, 26, 27, 28, 29, 3, 4, 6, 30, 31, 32, 33, 34, 35, 36, 37, 38, 39, 40, 41, 42, 43, 44, 45, 46, 47, 48, 49, 50, 51, 52, 53, 54, 55, 56, 57, 58, 59, 60, 61, 62, 63, 64, 65, 66, 67, 68, 69, 70, 71, 72, 73, 74, 75, 76, 77, 78, 79, 80, 81, 82, 83, 84, 85, 86, 87, 88, 89, 90, 91, 92, 93, 94, 95, 96, 97, 98, 99, 100, 101, 102, 103, 104, 105, 106, 107, 108, 109, 110, 111, 112, 113, 114, 115, 116, 117, 118, 119, 120, 121, 122, 123, 124, 125, 126, 127, 128, 129, 130, 131, 132, 133, 134, 135, 136, 137, 138, 139, 140, 141, 142, 143, 144, 145, 146, 147, 148, 149, 150, 151, 152, 153, 154, 155, 156, 157, 158, 159, 160, 161, 162, 163, 164, 165, 166, 167, 168, 169, 170, 171, 172] rfl rfl
set_option maxRecDepth 20000 in
theorem gX9_layGains_X9_standWith : GoodIn wsX9_layGains (wsV RX9 399 RX9 yX9_standWith wsX9_standWith) := goodIn_app (goodIn_of _ (by decide +kernel)) ggX9_layGains_X9_standWith
theorem dX9_layGains_0 : decode cX9_layGains 0 = .ok (.iconst 0, 1) := by decide +kernel
theorem dX9_layGains_1 : decode cX9_layGains 1 = .ok (.istore_n 3, 1) := by decide +kernel
theorem dX9_layGains_2 : decode cX9_layGains 2 = .ok (.iload_n 3, 1) := by decide +kernel
theorem dX9_layGains_3 : decode cX9_layGains 3 = .ok (.sipush 144, 3) := by decide +kernel
theorem dX9_layGains_6 : decode cX9_layGains 6 = .ok (.if_icmp .ge 152, 3) := by decide +kernel
theorem dX9_layGains_9 : decode cX9_layGains 9 = .ok (.iload_n 3, 1) := by decide +kernel
theorem dX9_layGains_10 : decode cX9_layGains 10 = .ok (.bipush 12, 2) := by decide +kernel
theorem dX9_layGains_12 : decode cX9_layGains 12 = .ok (.idiv, 1) := by decide +kernel
theorem dX9_layGains_13 : decode cX9_layGains 13 = .ok (.istore 4, 2) := by decide +kernel
theorem dX9_layGains_15 : decode cX9_layGains 15 = .ok (.iload_n 3, 1) := by decide +kernel
theorem dX9_layGains_16 : decode cX9_layGains 16 = .ok (.bipush 12, 2) := by decide +kernel
theorem dX9_layGains_18 : decode cX9_layGains 18 = .ok (.irem, 1) := by decide +kernel
theorem dX9_layGains_19 : decode cX9_layGains 19 = .ok (.istore 5, 2) := by decide +kernel
theorem dX9_layGains_21 : decode cX9_layGains 21 = .ok (.aload_n 0, 1) := by decide +kernel
theorem dX9_layGains_22 : decode cX9_layGains 22 = .ok (.getfield 76, 3) := by decide +kernel
theorem dX9_layGains_25 : decode cX9_layGains 25 = .ok (.iconst 1, 1) := by decide +kernel
theorem dX9_layGains_26 : decode cX9_layGains 26 = .ok (.iaload, 1) := by decide +kernel
theorem dX9_layGains_27 : decode cX9_layGains 27 = .ok (.iload 4, 2) := by decide +kernel
theorem dX9_layGains_29 : decode cX9_layGains 29 = .ok (.invokestatic 245, 3) := by decide +kernel
theorem dX9_layGains_32 : decode cX9_layGains 32 = .ok (.ifCond .eq 120, 3) := by decide +kernel
theorem dX9_layGains_35 : decode cX9_layGains 35 = .ok (.aload_n 0, 1) := by decide +kernel
theorem dX9_layGains_36 : decode cX9_layGains 36 = .ok (.getfield 76, 3) := by decide +kernel
theorem dX9_layGains_39 : decode cX9_layGains 39 = .ok (.iconst 1, 1) := by decide +kernel
theorem dX9_layGains_40 : decode cX9_layGains 40 = .ok (.iaload, 1) := by decide +kernel
theorem dX9_layGains_41 : decode cX9_layGains 41 = .ok (.iload 5, 2) := by decide +kernel
theorem dX9_layGains_43 : decode cX9_layGains 43 = .ok (.invokestatic 245, 3) := by decide +kernel
theorem dX9_layGains_46 : decode cX9_layGains 46 = .ok (.ifCond .ne 6, 3) := by decide +kernel
theorem dX9_layGains_49 : decode cX9_layGains 49 = .ok (.goto 103, 3) := by decide +kernel
theorem dX9_layGains_52 : decode cX9_layGains 52 = .ok (.aload_n 0, 1) := by decide +kernel
theorem dX9_layGains_53 : decode cX9_layGains 53 = .ok (.aload_n 0, 1) := by decide +kernel
theorem dX9_layGains_54 : decode cX9_layGains 54 = .ok (.getfield 76, 3) := by decide +kernel
theorem dX9_layGains_57 : decode cX9_layGains 57 = .ok (.iconst 1, 1) := by decide +kernel
theorem dX9_layGains_58 : decode cX9_layGains 58 = .ok (.iaload, 1) := by decide +kernel
theorem dX9_layGains_59 : decode cX9_layGains 59 = .ok (.iconst 1, 1) := by decide +kernel
theorem dX9_layGains_60 : decode cX9_layGains 60 = .ok (.iload 4, 2) := by decide +kernel
theorem dX9_layGains_62 : decode cX9_layGains 62 = .ok (.ishl, 1) := by decide +kernel
theorem dX9_layGains_63 : decode cX9_layGains 63 = .ok (.iconst (-1), 1) := by decide +kernel
theorem dX9_layGains_64 : decode cX9_layGains 64 = .ok (.ixor, 1) := by decide +kernel
theorem dX9_layGains_65 : decode cX9_layGains 65 = .ok (.iand, 1) := by decide +kernel
theorem dX9_layGains_66 : decode cX9_layGains 66 = .ok (.iconst 1, 1) := by decide +kernel
theorem dX9_layGains_67 : decode cX9_layGains 67 = .ok (.iload 5, 2) := by decide +kernel
theorem dX9_layGains_69 : decode cX9_layGains 69 = .ok (.ishl, 1) := by decide +kernel
theorem dX9_layGains_70 : decode cX9_layGains 70 = .ok (.iconst (-1), 1) := by decide +kernel
theorem dX9_layGains_71 : decode cX9_layGains 71 = .ok (.ixor, 1) := by decide +kernel
theorem dX9_layGains_72 : decode cX9_layGains 72 = .ok (.iand, 1) := by decide +kernel
theorem dX9_layGains_73 : decode cX9_layGains 73 = .ok (.invokevirtual 399, 3) := by decide +kernel
theorem dX9_layGains_76 : decode cX9_layGains 76 = .ok (.istore 6, 2) := by decide +kernel
theorem dX9_layGains_78 : decode cX9_layGains 78 = .ok (.aload_n 0, 1) := by decide +kernel
theorem dX9_layGains_79 : decode cX9_layGains 79 = .ok (.getfield 100, 3) := by decide +kernel
theorem dX9_layGains_82 : decode cX9_layGains 82 = .ok (.iload_n 3, 1) := by decide +kernel
theorem dX9_layGains_83 : decode cX9_layGains 83 = .ok (.iload 6, 2) := by decide +kernel
theorem dX9_layGains_85 : decode cX9_layGains 85 = .ok (.iload_n 1, 1) := by decide +kernel
theorem dX9_layGains_86 : decode cX9_layGains 86 = .ok (.invokestatic 245, 3) := by decide +kernel
theorem dX9_layGains_89 : decode cX9_layGains 89 = .ok (.ifCond .eq 7, 3) := by decide +kernel
theorem dX9_layGains_92 : decode cX9_layGains 92 = .ok (.iconst 2, 1) := by decide +kernel
theorem dX9_layGains_93 : decode cX9_layGains 93 = .ok (.goto 4, 3) := by decide +kernel
theorem dX9_layGains_96 : decode cX9_layGains 96 = .ok (.iconst 0, 1) := by decide +kernel
theorem dX9_layGains_97 : decode cX9_layGains 97 = .ok (.iload 6, 2) := by decide +kernel
theorem dX9_layGains_99 : decode cX9_layGains 99 = .ok (.iload_n 2, 1) := by decide +kernel
theorem dX9_layGains_100 : decode cX9_layGains 100 = .ok (.invokestatic 245, 3) := by decide +kernel
theorem dX9_layGains_103 : decode cX9_layGains 103 = .ok (.ifCond .eq 7, 3) := by decide +kernel
theorem dX9_layGains_106 : decode cX9_layGains 106 = .ok (.iconst 0, 1) := by decide +kernel
theorem dX9_layGains_107 : decode cX9_layGains 107 = .ok (.goto 4, 3) := by decide +kernel
theorem dX9_layGains_110 : decode cX9_layGains 110 = .ok (.iconst 1, 1) := by decide +kernel
theorem dX9_layGains_111 : decode cX9_layGains 111 = .ok (.iadd, 1) := by decide +kernel
theorem dX9_layGains_112 : decode cX9_layGains 112 = .ok (.iastore, 1) := by decide +kernel
theorem dX9_layGains_113 : decode cX9_layGains 113 = .ok (.aload_n 0, 1) := by decide +kernel
theorem dX9_layGains_114 : decode cX9_layGains 114 = .ok (.getfield 100, 3) := by decide +kernel
theorem dX9_layGains_117 : decode cX9_layGains 117 = .ok (.sipush 144, 3) := by decide +kernel
theorem dX9_layGains_120 : decode cX9_layGains 120 = .ok (.iload_n 3, 1) := by decide +kernel
theorem dX9_layGains_121 : decode cX9_layGains 121 = .ok (.iadd, 1) := by decide +kernel
theorem dX9_layGains_122 : decode cX9_layGains 122 = .ok (.iload 6, 2) := by decide +kernel
theorem dX9_layGains_124 : decode cX9_layGains 124 = .ok (.iload_n 2, 1) := by decide +kernel
theorem dX9_layGains_125 : decode cX9_layGains 125 = .ok (.invokestatic 245, 3) := by decide +kernel
theorem dX9_layGains_128 : decode cX9_layGains 128 = .ok (.ifCond .eq 7, 3) := by decide +kernel
theorem dX9_layGains_131 : decode cX9_layGains 131 = .ok (.iconst 2, 1) := by decide +kernel
theorem dX9_layGains_132 : decode cX9_layGains 132 = .ok (.goto 4, 3) := by decide +kernel
theorem dX9_layGains_135 : decode cX9_layGains 135 = .ok (.iconst 0, 1) := by decide +kernel
theorem dX9_layGains_136 : decode cX9_layGains 136 = .ok (.iload 6, 2) := by decide +kernel
theorem dX9_layGains_138 : decode cX9_layGains 138 = .ok (.iload_n 1, 1) := by decide +kernel
theorem dX9_layGains_139 : decode cX9_layGains 139 = .ok (.invokestatic 245, 3) := by decide +kernel
theorem dX9_layGains_142 : decode cX9_layGains 142 = .ok (.ifCond .eq 7, 3) := by decide +kernel
theorem dX9_layGains_145 : decode cX9_layGains 145 = .ok (.iconst 0, 1) := by decide +kernel
theorem dX9_layGains_146 : decode cX9_layGains 146 = .ok (.goto 4, 3) := by decide +kernel
theorem dX9_layGains_149 : decode cX9_layGains 149 = .ok (.iconst 1, 1) := by decide +kernel
theorem dX9_layGains_150 : decode cX9_layGains 150 = .ok (.iadd, 1) := by decide +kernel
theorem dX9_layGains_151 : decode cX9_layGains 151 = .ok (.iastore, 1) := by decide +kernel
theorem dX9_layGains_152 : decode cX9_layGains 152 = .ok (.iinc 3 1, 3) := by decide +kernel
theorem dX9_layGains_155 : decode cX9_layGains 155 = .ok (.goto (-153), 3) := by decide +kernel
theorem dX9_layGains_158 : decode cX9_layGains 158 = .ok (.return_, 1) := by decide +kernel
set_option maxRecDepth 20000 in
theorem ggX9_isRest_X9_bit : GoodIn wsX9_isRest wsX9_bit := goodIn_r _ [6] rfl rfl
set_option maxRecDepth 20000 in
theorem gX9_isRest_X9_bit : GoodIn wsX9_isRest (va_wsS RX9 245 yX9_bit wsX9_bit) := goodIn_app (goodIn_of _ (by decide +kernel)) ggX9_isRest_X9_bit
set_option maxRecDepth 20000 in
theorem ggX9_isRest_X9_threads : GoodIn wsX9_isRest wsX9_threads := goodIn_r _ [10, 11, 12, 13, 14, 15, 16, 17, 18, 19, 20, 21, 22, 23, 24, 25, 26, 27, 28, 29, 30, 31, 32, 33, 34, 35, 36, 37, 38, 39, 40, 41, 42, 43, 44, 45, 46, 47, 48, 49, 50, 51, 52, 53, 54, 55, 56, 57, 58, 59, 60, 61, 62, 63, 64, 65, 66, 67, 68, 69, 70, 71, 72, 73, 74, 75, 76] rfl rfl
set_option maxRecDepth 20000 in
theorem gX9_isRest_X9_threads : GoodIn wsX9_isRest (wsV RX9 350 RX9 yX9_threads wsX9_threads) := goodIn_app (goodIn_of _ (by decide +kernel)) ggX9_isRest_X9_threads
theorem dX9_isRest_0 : decode cX9_isRest 0 = .ok (.iload_n 1, 1) := by decide +kernel
theorem dX9_isRest_1 : decode cX9_isRest 1 = .ok (.bipush 12, 2) := by decide +kernel
theorem dX9_isRest_3 : decode cX9_isRest 3 = .ok (.idiv, 1) := by decide +kernel
theorem dX9_isRest_4 : decode cX9_isRest 4 = .ok (.istore_n 2, 1) := by decide +kernel
theorem dX9_isRest_5 : decode cX9_isRest 5 = .ok (.iload_n 1, 1) := by decide +kernel
theorem dX9_isRest_6 : decode cX9_isRest 6 = .ok (.bipush 12, 2) := by decide +kernel
theorem dX9_isRest_8 : decode cX9_isRest 8 = .ok (.irem, 1) := by decide +kernel
theorem dX9_isRest_9 : decode cX9_isRest 9 = .ok (.istore_n 3, 1) := by decide +kernel
theorem dX9_isRest_10 : decode cX9_isRest 10 = .ok (.aload_n 0, 1) := by decide +kernel
theorem dX9_isRest_11 : decode cX9_isRest 11 = .ok (.getfield 76, 3) := by decide +kernel
theorem dX9_isRest_14 : decode cX9_isRest 14 = .ok (.iconst 1, 1) := by decide +kernel
theorem dX9_isRest_15 : decode cX9_isRest 15 = .ok (.iaload, 1) := by decide +kernel
theorem dX9_isRest_16 : decode cX9_isRest 16 = .ok (.iload_n 2, 1) := by decide +kernel
theorem dX9_isRest_17 : decode cX9_isRest 17 = .ok (.invokestatic 245, 3) := by decide +kernel
theorem dX9_isRest_20 : decode cX9_isRest 20 = .ok (.ifCond .eq 16, 3) := by decide +kernel
theorem dX9_isRest_23 : decode cX9_isRest 23 = .ok (.aload_n 0, 1) := by decide +kernel
theorem dX9_isRest_24 : decode cX9_isRest 24 = .ok (.getfield 76, 3) := by decide +kernel
theorem dX9_isRest_27 : decode cX9_isRest 27 = .ok (.iconst 1, 1) := by decide +kernel
theorem dX9_isRest_28 : decode cX9_isRest 28 = .ok (.iaload, 1) := by decide +kernel
theorem dX9_isRest_29 : decode cX9_isRest 29 = .ok (.iload_n 3, 1) := by decide +kernel
theorem dX9_isRest_30 : decode cX9_isRest 30 = .ok (.invokestatic 245, 3) := by decide +kernel
theorem dX9_isRest_33 : decode cX9_isRest 33 = .ok (.ifCond .ne 5, 3) := by decide +kernel
theorem dX9_isRest_36 : decode cX9_isRest 36 = .ok (.iconst 0, 1) := by decide +kernel
theorem dX9_isRest_37 : decode cX9_isRest 37 = .ok (.ireturn, 1) := by decide +kernel
theorem dX9_isRest_38 : decode cX9_isRest 38 = .ok (.iconst 0, 1) := by decide +kernel
theorem dX9_isRest_39 : decode cX9_isRest 39 = .ok (.istore 4, 2) := by decide +kernel
theorem dX9_isRest_41 : decode cX9_isRest 41 = .ok (.iload 4, 2) := by decide +kernel
theorem dX9_isRest_43 : decode cX9_isRest 43 = .ok (.aload_n 0, 1) := by decide +kernel
theorem dX9_isRest_44 : decode cX9_isRest 44 = .ok (.invokevirtual 350, 3) := by decide +kernel
theorem dX9_isRest_47 : decode cX9_isRest 47 = .ok (.if_icmp .ge 75, 3) := by decide +kernel
theorem dX9_isRest_50 : decode cX9_isRest 50 = .ok (.aload_n 0, 1) := by decide +kernel
theorem dX9_isRest_51 : decode cX9_isRest 51 = .ok (.getfield 76, 3) := by decide +kernel
theorem dX9_isRest_54 : decode cX9_isRest 54 = .ok (.iconst 1, 1) := by decide +kernel
theorem dX9_isRest_55 : decode cX9_isRest 55 = .ok (.iaload, 1) := by decide +kernel
theorem dX9_isRest_56 : decode cX9_isRest 56 = .ok (.iload 4, 2) := by decide +kernel
theorem dX9_isRest_58 : decode cX9_isRest 58 = .ok (.invokestatic 245, 3) := by decide +kernel
theorem dX9_isRest_61 : decode cX9_isRest 61 = .ok (.ifCond .eq 55, 3) := by decide +kernel
theorem dX9_isRest_64 : decode cX9_isRest 64 = .ok (.aload_n 0, 1) := by decide +kernel
theorem dX9_isRest_65 : decode cX9_isRest 65 = .ok (.getfield 100, 3) := by decide +kernel
theorem dX9_isRest_68 : decode cX9_isRest 68 = .ok (.bipush 12, 2) := by decide +kernel
theorem dX9_isRest_70 : decode cX9_isRest 70 = .ok (.iload 4, 2) := by decide +kernel
theorem dX9_isRest_72 : decode cX9_isRest 72 = .ok (.imul, 1) := by decide +kernel
theorem dX9_isRest_73 : decode cX9_isRest 73 = .ok (.iload_n 3, 1) := by decide +kernel
theorem dX9_isRest_74 : decode cX9_isRest 74 = .ok (.iadd, 1) := by decide +kernel
theorem dX9_isRest_75 : decode cX9_isRest 75 = .ok (.iaload, 1) := by decide +kernel
theorem dX9_isRest_76 : decode cX9_isRest 76 = .ok (.aload_n 0, 1) := by decide +kernel
theorem dX9_isRest_77 : decode cX9_isRest 77 = .ok (.getfield 100, 3) := by decide +kernel
theorem dX9_isRest_80 : decode cX9_isRest 80 = .ok (.iload_n 1, 1) := by decide +kernel
theorem dX9_isRest_81 : decode cX9_isRest 81 = .ok (.iaload, 1) := by decide +kernel
theorem dX9_isRest_82 : decode cX9_isRest 82 = .ok (.if_icmp .gt 32, 3) := by decide +kernel
theorem dX9_isRest_85 : decode cX9_isRest 85 = .ok (.aload_n 0, 1) := by decide +kernel
theorem dX9_isRest_86 : decode cX9_isRest 86 = .ok (.getfield 100, 3) := by decide +kernel
theorem dX9_isRest_89 : decode cX9_isRest 89 = .ok (.sipush 144, 3) := by decide +kernel
theorem dX9_isRest_92 : decode cX9_isRest 92 = .ok (.bipush 12, 2) := by decide +kernel
theorem dX9_isRest_94 : decode cX9_isRest 94 = .ok (.iload_n 2, 1) := by decide +kernel
theorem dX9_isRest_95 : decode cX9_isRest 95 = .ok (.imul, 1) := by decide +kernel
theorem dX9_isRest_96 : decode cX9_isRest 96 = .ok (.iadd, 1) := by decide +kernel
theorem dX9_isRest_97 : decode cX9_isRest 97 = .ok (.iload 4, 2) := by decide +kernel
theorem dX9_isRest_99 : decode cX9_isRest 99 = .ok (.iadd, 1) := by decide +kernel
theorem dX9_isRest_100 : decode cX9_isRest 100 = .ok (.iaload, 1) := by decide +kernel
theorem dX9_isRest_101 : decode cX9_isRest 101 = .ok (.aload_n 0, 1) := by decide +kernel
theorem dX9_isRest_102 : decode cX9_isRest 102 = .ok (.getfield 100, 3) := by decide +kernel
theorem dX9_isRest_105 : decode cX9_isRest 105 = .ok (.sipush 144, 3) := by decide +kernel
theorem dX9_isRest_108 : decode cX9_isRest 108 = .ok (.iload_n 1, 1) := by decide +kernel
theorem dX9_isRest_109 : decode cX9_isRest 109 = .ok (.iadd, 1) := by decide +kernel
theorem dX9_isRest_110 : decode cX9_isRest 110 = .ok (.iaload, 1) := by decide +kernel
theorem dX9_isRest_111 : decode cX9_isRest 111 = .ok (.if_icmp .le 5, 3) := by decide +kernel
theorem dX9_isRest_114 : decode cX9_isRest 114 = .ok (.iconst 0, 1) := by decide +kernel
theorem dX9_isRest_115 : decode cX9_isRest 115 = .ok (.ireturn, 1) := by decide +kernel
theorem dX9_isRest_116 : decode cX9_isRest 116 = .ok (.iinc 4 1, 3) := by decide +kernel
theorem dX9_isRest_119 : decode cX9_isRest 119 = .ok (.goto (-78), 3) := by decide +kernel
theorem dX9_isRest_122 : decode cX9_isRest 122 = .ok (.iconst 1, 1) := by decide +kernel
theorem dX9_isRest_123 : decode cX9_isRest 123 = .ok (.ireturn, 1) := by decide +kernel
set_option maxRecDepth 20000 in
theorem ggX9_counsels_X9_isClaim : GoodIn wsX9_counsels wsX9_isClaim := goodIn_r _ [8, 9, 10, 11, 12, 13, 7, 14, 15, 16, 17, 18, 19, 20, 21, 22, 119, 120, 121, 122, 123, 124, 125, 126, 127, 128, 129, 130, 131, 132, 133, 134, 135, 136, 137, 138, 139, 140, 141, 142, 143, 144, 145, 146, 147, 148, 149, 150, 151, 152, 153, 154, 155, 156, 157, 158, 159, 160, 161, 162, 163, 164, 165, 166, 167, 168, 169, 170, 171, 172, 173, 174, 175, 176, 177, 178, 179, 180, 181, 182] rfl rfl
set_option maxRecDepth 20000 in
theorem gX9_counsels_X9_isClaim : GoodIn wsX9_counsels (wsV RX9 390 RX9 yX9_isClaim wsX9_isClaim) := goodIn_app (goodIn_of _ (by decide +kernel)) ggX9_counsels_X9_isClaim
set_option maxRecDepth 20000 in
theorem ggX9_counsels_X9_layGains : GoodIn wsX9_counsels wsX9_layGains := goodIn_r _ [26, 2, 27, 28, 29, 7, 30, 31, 32, 33, 34, 35, 36, 37, 38, 39, 40, 41, 42, 43, 44, 45, 46, 47, 10, 48, 49, 50, 51, 52, 53, 54, 55, 56, 57, 58, 59, 60, 61, 62, 63, 64, 65, 66, 67, 68, 69, 70, 71, 72, 73, 74, 75, 76, 77, 78, 79, 80, 81, 82, 83, 84, 85, 86, 87, 88, 89, 90, 91, 92, 93, 94, 95, 96, 9, 97, 98, 99, 100, 101, 102, 103, 104, 105, 106, 15, 16, 17, 18, 19, 107, 108, 109, 110, 11, 12, 13, 14, 20, 21, 22, 4, 5, 6, 8, 111, 112, 113, 114, 119, 120, 121, 122, 123, 124, 125, 126, 127, 128, 129, 130, 131, 132, 133, 134, 135, 136, 137, 138, 139, 140, 141, 142, 143, 144, 145, 146, 147, 148, 149, 150, 151, 152, 153, 154, 155, 156, 157, 158, 159, 160, 161, 162, 163, 164, 165, 166, 167, 168, 169, 170, 171, 172, 173, 174, 175, 176, 177, 178, 179, 180, 181, 182] rfl rfl
set_option maxRecDepth 20000 in
theorem gX9_counsels_X9_layGains : GoodIn wsX9_counsels (wsV RX9 476 RX9 yX9_layGains wsX9_layGains) := goodIn_app (goodIn_of _ (by decide +kernel)) ggX9_counsels_X9_layGains
set_option maxRecDepth 20000 in
theorem ggX9_counsels_X9_isRest : GoodIn wsX9_counsels wsX9_isRest := goodIn_r _ [118, 2, 27, 28, 29, 7, 30, 48, 49, 50, 51, 52, 10, 119, 120, 121, 122, 123, 124, 125, 126, 127, 128, 129, 130, 131, 132, 133, 134, 135, 136, 137, 138, 139, 140, 141, 142, 143, 144, 145, 146, 147, 148, 149, 150, 151, 152, 153, 154, 155, 156, 157, 158, 159, 160, 161, 162, 163, 164, 165, 166, 167, 168, 169, 170, 171, 172, 173, 174, 175, 176, 177, 178, 179, 180, 181, 182] rfl rfl
set_option maxRecDepth 20000 in
theorem gX9_counsels_X9_isRest : GoodIn wsX9_counsels (wsV RX9 479 RX9 yX9_isRest wsX9_isRest) := goodIn_app (goodIn_of _ (by decide +kernel)) ggX9_counsels_X9_isRest
theorem dX9_counsels_0 : decode cX9_counsels 0 = .ok (.aload_n 0, 1) := by decide +kernel
theorem dX9_counsels_1 : decode cX9_counsels 1 = .ok (.iconst 0, 1) := by decide +kernel
theorem dX9_counsels_2 : decode cX9_counsels 2 = .ok (.putfield 377, 3) := by decide +kernel
theorem dX9_counsels_5 : decode cX9_counsels 5 = .ok (.aload_n 0, 1) := by decide +kernel
theorem dX9_counsels_6 : decode cX9_counsels 6 = .ok (.iload_n 1, 1) := by decide +kernel
theorem dX9_counsels_7 : decode cX9_counsels 7 = .ok (.invokevirtual 390, 3) := by decide +kernel
theorem dX9_counsels_10 : decode cX9_counsels 10 = .ok (.ifCond .eq 25, 3) := by decide +kernel
theorem dX9_counsels_13 : decode cX9_counsels 13 = .ok (.aload_n 0, 1) := by decide +kernel
theorem dX9_counsels_14 : decode cX9_counsels 14 = .ok (.iload_n 2, 1) := by decide +kernel
theorem dX9_counsels_15 : decode cX9_counsels 15 = .ok (.invokevirtual 390, 3) := by decide +kernel
theorem dX9_counsels_18 : decode cX9_counsels 18 = .ok (.ifCond .eq 17, 3) := by decide +kernel
theorem dX9_counsels_21 : decode cX9_counsels 21 = .ok (.iload_n 1, 1) := by decide +kernel
theorem dX9_counsels_22 : decode cX9_counsels 22 = .ok (.iload_n 2, 1) := by decide +kernel
theorem dX9_counsels_23 : decode cX9_counsels 23 = .ok (.if_icmp .eq 12, 3) := by decide +kernel
theorem dX9_counsels_26 : decode cX9_counsels 26 = .ok (.aload_n 0, 1) := by decide +kernel
theorem dX9_counsels_27 : decode cX9_counsels 27 = .ok (.getfield 76, 3) := by decide +kernel
theorem dX9_counsels_30 : decode cX9_counsels 30 = .ok (.iconst 1, 1) := by decide +kernel
theorem dX9_counsels_31 : decode cX9_counsels 31 = .ok (.iaload, 1) := by decide +kernel
theorem dX9_counsels_32 : decode cX9_counsels 32 = .ok (.ifCond .ne 5, 3) := by decide +kernel
theorem dX9_counsels_35 : decode cX9_counsels 35 = .ok (.iconst (-1), 1) := by decide +kernel
theorem dX9_counsels_36 : decode cX9_counsels 36 = .ok (.ireturn, 1) := by decide +kernel
theorem dX9_counsels_37 : decode cX9_counsels 37 = .ok (.aload_n 0, 1) := by decide +kernel
theorem dX9_counsels_38 : decode cX9_counsels 38 = .ok (.iload_n 1, 1) := by decide +kernel
theorem dX9_counsels_39 : decode cX9_counsels 39 = .ok (.iload_n 2, 1) := by decide +kernel
theorem dX9_counsels_40 : decode cX9_counsels 40 = .ok (.invokevirtual 476, 3) := by decide +kernel
theorem dX9_counsels_43 : decode cX9_counsels 43 = .ok (.iconst 0, 1) := by decide +kernel
theorem dX9_counsels_44 : decode cX9_counsels 44 = .ok (.istore_n 3, 1) := by decide +kernel
theorem dX9_counsels_45 : decode cX9_counsels 45 = .ok (.iconst 0, 1) := by decide +kernel
theorem dX9_counsels_46 : decode cX9_counsels 46 = .ok (.istore 4, 2) := by decide +kernel
theorem dX9_counsels_48 : decode cX9_counsels 48 = .ok (.iload 4, 2) := by decide +kernel
theorem dX9_counsels_50 : decode cX9_counsels 50 = .ok (.sipush 144, 3) := by decide +kernel
theorem dX9_counsels_53 : decode cX9_counsels 53 = .ok (.if_icmp .ge 55, 3) := by decide +kernel
theorem dX9_counsels_56 : decode cX9_counsels 56 = .ok (.aload_n 0, 1) := by decide +kernel
theorem dX9_counsels_57 : decode cX9_counsels 57 = .ok (.iload 4, 2) := by decide +kernel
theorem dX9_counsels_59 : decode cX9_counsels 59 = .ok (.invokevirtual 479, 3) := by decide +kernel
theorem dX9_counsels_62 : decode cX9_counsels 62 = .ok (.ifCond .ne 6, 3) := by decide +kernel
theorem dX9_counsels_65 : decode cX9_counsels 65 = .ok (.goto 37, 3) := by decide +kernel
theorem dX9_counsels_68 : decode cX9_counsels 68 = .ok (.iload_n 3, 1) := by decide +kernel
theorem dX9_counsels_69 : decode cX9_counsels 69 = .ok (.ifCond .ne 30, 3) := by decide +kernel
theorem dX9_counsels_72 : decode cX9_counsels 72 = .ok (.aload_n 0, 1) := by decide +kernel
theorem dX9_counsels_73 : decode cX9_counsels 73 = .ok (.getfield 97, 3) := by decide +kernel
theorem dX9_counsels_76 : decode cX9_counsels 76 = .ok (.iconst 0, 1) := by decide +kernel
theorem dX9_counsels_77 : decode cX9_counsels 77 = .ok (.iload 4, 2) := by decide +kernel
theorem dX9_counsels_79 : decode cX9_counsels 79 = .ok (.bipush 12, 2) := by decide +kernel
theorem dX9_counsels_81 : decode cX9_counsels 81 = .ok (.idiv, 1) := by decide +kernel
theorem dX9_counsels_82 : decode cX9_counsels 82 = .ok (.iastore, 1) := by decide +kernel
theorem dX9_counsels_83 : decode cX9_counsels 83 = .ok (.aload_n 0, 1) := by decide +kernel
theorem dX9_counsels_84 : decode cX9_counsels 84 = .ok (.getfield 97, 3) := by decide +kernel
theorem dX9_counsels_87 : decode cX9_counsels 87 = .ok (.iconst 1, 1) := by decide +kernel
theorem dX9_counsels_88 : decode cX9_counsels 88 = .ok (.iload 4, 2) := by decide +kernel
theorem dX9_counsels_90 : decode cX9_counsels 90 = .ok (.bipush 12, 2) := by decide +kernel
theorem dX9_counsels_92 : decode cX9_counsels 92 = .ok (.irem, 1) := by decide +kernel
theorem dX9_counsels_93 : decode cX9_counsels 93 = .ok (.iastore, 1) := by decide +kernel
theorem dX9_counsels_94 : decode cX9_counsels 94 = .ok (.aload_n 0, 1) := by decide +kernel
theorem dX9_counsels_95 : decode cX9_counsels 95 = .ok (.iconst 2, 1) := by decide +kernel
theorem dX9_counsels_96 : decode cX9_counsels 96 = .ok (.putfield 377, 3) := by decide +kernel
theorem dX9_counsels_99 : decode cX9_counsels 99 = .ok (.iinc 3 1, 3) := by decide +kernel
theorem dX9_counsels_102 : decode cX9_counsels 102 = .ok (.iinc 4 1, 3) := by decide +kernel
theorem dX9_counsels_105 : decode cX9_counsels 105 = .ok (.goto (-57), 3) := by decide +kernel
theorem dX9_counsels_108 : decode cX9_counsels 108 = .ok (.iload_n 3, 1) := by decide +kernel
theorem dX9_counsels_109 : decode cX9_counsels 109 = .ok (.ireturn, 1) := by decide +kernel
theorem in_X9_mend_X9 : ∀ w ∈ wsX90, w ∈ wsX9_mend := fun _ h => List.mem_cons_of_mem _ (List.mem_append_right _ h)
theorem in_X9_proof_X9 : ∀ w ∈ wsX90, w ∈ wsX9_proof := fun _ h => List.mem_cons_of_mem _ (List.mem_append_right _ h)
theorem in_X9_isRest_X9 : ∀ w ∈ wsX90, w ∈ wsX9_isRest := fun _ h => List.mem_cons_of_mem _ (List.mem_append_right _ h)
theorem in_X9_layGains_X9 : ∀ w ∈ wsX90, w ∈ wsX9_layGains := fun _ h => List.mem_cons_of_mem _ (List.mem_append_right _ h)
theorem in_X9_counsels_X9 : ∀ w ∈ wsX90, w ∈ wsX9_counsels := fun _ h => List.mem_cons_of_mem _ (List.mem_append_right _ h)
theorem in_X9_shock_X9 : ∀ w ∈ wsX90, w ∈ wsX9_shock := fun _ h => List.mem_cons_of_mem _ (List.mem_append_right _ h)
set_option maxHeartbeats 4000000 in
set_option maxRecDepth 100000 in
theorem s_X9_mend_0 (l : Launch) (B0 : Nat) (adK adV : Nat → Nat) (D : va_G) (cy : Nat → ClassId) (ad : Nat → Nat) (fr0 : Nat → va_E) (c_text : Nat → Int32) (m_taped : Int32) (m_size : Int32) (m_faultKind : Int32) (m_faultPlace : Int32) (m_at : Int32) (m_end : Int32) (m_token : Int32) (m_number : Int32) (m_name : Int64) (c_points : Nat → Int32) (c_strands : Nat → Int32) (c_units : Nat → Int32) (c_told : Nat → Int32) (c_ruleFrom : Nat → Int32) (c_ruleTo : Nat → Int32) (c_code : Nat → Int32) (c_eWhat : Nat → Int32) (c_eSign : Nat → Int32) (m_bank : Int32) (m_rb : Int32) (m_codes : Int32) (m_within : Int32) (m_piled : Int32) (m_unitsInRule : Int32) (m_askStrand : Int32) (m_askTied : Int32) (m_thoughtClaim : Int32) (m_thoughtNeed : Int32) (m_thoughtAll : Int32) (c_roundOf : Nat → Int32) (m_acts : Int32) (m_undone : Int32) (m_laid : Int32) (m_firstMove : Int32) (m_seens : Int32) (m_time : Int32) (m_waysNow : Int32) (m_fitting : Int32) (f : Nat → va_E) (hT : TYm ad cy fr0 c_text m_taped m_size m_faultKind m_faultPlace m_at m_end m_token m_number m_name c_points c_strands c_units c_told c_ruleFrom c_ruleTo c_code c_eWhat c_eSign m_bank m_rb m_codes m_within m_piled m_unitsInRule m_askStrand m_askTied m_thoughtClaim m_thoughtNeed m_thoughtAll c_roundOf m_acts m_undone m_laid m_firstMove m_seens m_time m_waysNow m_fitting f) (p1 : Int32) (p2 : Int32) (hCV : CVp c_told c_ruleFrom c_ruleTo c_code m_bank) (sz : Nat) : TtI l yX9_mend wsX9_mend 8 181 [.ref (ad 148), .int p1, .int p2] B0 adK adV D cy ad f sz (fun (r : Int32) (g : Nat → va_E) => (-1 ≤ r.toInt ∧ r.toInt ≤ 4095) ∧ (∃ (m_askStrand' : Int32) (m_askTied' : Int32) (c_roundOf' : Nat → Int32), TYm ad cy fr0 c_text m_taped m_size m_faultKind m_faultPlace m_at m_end m_token m_number m_name c_points c_strands c_units c_told c_ruleFrom c_ruleTo c_code c_eWhat c_eSign m_bank m_rb m_codes m_within m_piled m_unitsInRule m_askStrand' m_askTied' m_thoughtClaim m_thoughtNeed m_thoughtAll c_roundOf' m_acts m_undone m_laid m_firstMove m_seens m_time m_waysNow m_fitting g)) := by
  refine TtI.of (cc := cX9_mend) (maxL := 6) (ty := .int) (own := RX9) (by decide) rfl (Nat.le_of_ble_eq_true rfl) rfl ?_
  intro p e s m below meth c A ls hx hb hr hml hts hown hlk hK hE hP hD hS hA hAB hl
  have hl : lv_has ls 6 [(0, .ref (ad 148)), (1, .int p1), (2, .int p2)] := hl
  refine st0 (fun H locs hP hS => ?_) hP hS
  have j43 : ∀ (N : Nat) (f : Nat → va_E) (H : Heap) (locs : List Loc) (ls : Array Slot) (v43_l5 : Int32) (v43_l4 : Int32) (v43_l3 : Int32) (v43_p_m_askStrand : Int32) (v43_p_m_askTied : Int32) (v43_p_c_roundOf : Nat → Int32), (4097 - v43_l5.toInt ≤ (N : Int)) → (0 ≤ v43_l5.toInt ∧ v43_l5.toInt ≤ 4096) → (-1 ≤ v43_l4.toInt ∧ v43_l4.toInt ≤ 4095) → (0 ≤ v43_l3.toInt ∧ v43_l3.toInt ≤ 4095) → (0 ≤ p1.toInt ∧ p1.toInt ≤ 9) → (0 ≤ p2.toInt ∧ p2.toInt ≤ 1) → (TYm ad cy fr0 c_text m_taped m_size m_faultKind m_faultPlace m_at m_end m_token m_number m_name c_points c_strands c_units c_told c_ruleFrom c_ruleTo c_code c_eWhat c_eSign m_bank m_rb m_codes m_within m_piled m_unitsInRule v43_p_m_askStrand v43_p_m_askTied m_thoughtClaim m_thoughtNeed m_thoughtAll v43_p_c_roundOf m_acts m_undone m_laid m_firstMove m_seens m_time m_waysNow m_fitting f) → (va_P D vwCl (wl ad f) H) → (va_D A (wl ad f)) → (va_S A s.heap H locs) → (lv_has ls 6 [(5, .int v43_l5), (4, .int v43_l4), (3, .int v43_l3), (0, .ref (ad 148)), (1, .int p1), (2, .int p2)]) → W p l e (rmO 8 181 0 0) s m ([.ref (ad 148), .int p1, .int p2] : List Value).toArray below meth c H locs 0 0 (MQ below (va_Qi (fun (r : Int32) (g : Nat → va_E) => (-1 ≤ r.toInt ∧ r.toInt ≤ 4095) ∧ (∃ (m_askStrand' : Int32) (m_askTied' : Int32) (c_roundOf' : Nat → Int32), TYm ad cy fr0 c_text m_taped m_size m_faultKind m_faultPlace m_at m_end m_token m_number m_name c_points c_strands c_units c_told c_ruleFrom c_ruleTo c_code c_eWhat c_eSign m_bank m_rb m_codes m_within m_piled m_unitsInRule m_askStrand' m_askTied' m_thoughtClaim m_thoughtNeed m_thoughtAll c_roundOf' m_acts m_undone m_laid m_firstMove m_seens m_time m_waysNow m_fitting g)) (fun g t => PstT D ad g t) A) ([.ref (ad 148), .int p1, .int p2] : List Value).toArray s 0 0 A) (F0 m 43 ls []) := by
    intro N
    induction N with
    | zero => intro f H locs ls v43_l5 v43_l4 v43_l3 v43_p_m_askStrand v43_p_m_askTied v43_p_c_roundOf hN hv43_l5 hv43_l4 hv43_l3 hv43_l1 hv43_l2 hT hP hD hS hl; exact absurd hN (by omega)
    | succ N ih43 =>
      intro f H locs ls v43_l5 v43_l4 v43_l3 v43_p_m_askStrand v43_p_m_askTied v43_p_c_roundOf hN hv43_l5 hv43_l4 hv43_l3 hv43_l1 hv43_l2 hT hP hD hS hl
      have j89 : ∀ (f : Nat → va_E) (H : Heap) (locs : List Loc) (ls : Array Slot) (v89_l4 : Int32) (v89_p_m_askStrand : Int32) (v89_p_m_askTied : Int32) (v89_p_c_roundOf : Nat → Int32), (0 ≤ v43_l5.toInt ∧ v43_l5.toInt ≤ 4095) → (-1 ≤ v89_l4.toInt ∧ v89_l4.toInt ≤ 4095) → (0 ≤ v43_l3.toInt ∧ v43_l3.toInt ≤ 4095) → (0 ≤ p1.toInt ∧ p1.toInt ≤ 9) → (0 ≤ p2.toInt ∧ p2.toInt ≤ 1) → (TYm ad cy fr0 c_text m_taped m_size m_faultKind m_faultPlace m_at m_end m_token m_number m_name c_points c_strands c_units c_told c_ruleFrom c_ruleTo c_code c_eWhat c_eSign m_bank m_rb m_codes m_within m_piled m_unitsInRule v89_p_m_askStrand v89_p_m_askTied m_thoughtClaim m_thoughtNeed m_thoughtAll v89_p_c_roundOf m_acts m_undone m_laid m_firstMove m_seens m_time m_waysNow m_fitting f) → (va_P D vwCl (wl ad f) H) → (va_D A (wl ad f)) → (va_S A s.heap H locs) → (lv_has ls 6 [(5, .int v43_l5), (4, .int v89_l4), (3, .int v43_l3), (0, .ref (ad 148)), (1, .int p1), (2, .int p2)]) → W p l e (rmO 8 181 0 0) s m ([.ref (ad 148), .int p1, .int p2] : List Value).toArray below meth c H locs 0 0 (MQ below (va_Qi (fun (r : Int32) (g : Nat → va_E) => (-1 ≤ r.toInt ∧ r.toInt ≤ 4095) ∧ (∃ (m_askStrand' : Int32) (m_askTied' : Int32) (c_roundOf' : Nat → Int32), TYm ad cy fr0 c_text m_taped m_size m_faultKind m_faultPlace m_at m_end m_token m_number m_name c_points c_strands c_units c_told c_ruleFrom c_ruleTo c_code c_eWhat c_eSign m_bank m_rb m_codes m_within m_piled m_unitsInRule m_askStrand' m_askTied' m_thoughtClaim m_thoughtNeed m_thoughtAll c_roundOf' m_acts m_undone m_laid m_firstMove m_seens m_time m_waysNow m_fitting g)) (fun g t => PstT D ad g t) A) ([.ref (ad 148), .int p1, .int p2] : List Value).toArray s 0 0 A) (F0 m 89 ls []) := by
        intro f H locs ls v89_l4 v89_p_m_askStrand v89_p_m_askTied v89_p_c_roundOf hv89_l5 hv89_l4 hv89_l3 hv89_l1 hv89_l2 hT hP hD hS hl
        obtain ⟨x1, ex1⟩ : ∃ q : Int32, q = v43_l5 + Int32.ofInt (1) := ⟨_, rfl⟩
        refine lv_iinc (v := x1) (lv' := [(5, .int x1), (4, .int v89_l4), (3, .int v43_l3), (0, .ref (ad 148)), (1, .int p1), (2, .int p2)]) hx hb dX9_mend_89 hl (k := 0) rfl ex1.symm (by decide) rfl (fun ls hl => ?_)
        have hx1 := r_inc ex1 (by decide) (by omega) (by omega)
        refine lv_goto (tgt := 43) hx hb dX9_mend_92 (by decide) ?_
        exact ih43 f H locs ls x1 v89_l4 v43_l3 v89_p_m_askStrand v89_p_m_askTied v89_p_c_roundOf (by omega) (by omega) (by omega) (by omega) (by omega) (by omega) hT hP hD hS (lv_sub hl [0, 1, 2, 3, 4, 5] rfl)
      refine lv_iload hx hb dX9_mend_43 (lv_at hl 0 rfl) ?_
      refine lv_iload_n hx hb dX9_mend_45 rfl (lv_at hl 2 rfl) ?_
      refine lv_icmp_gt (tgt := 95) hx hb dX9_mend_46 (by decide) (fun c2 => ?_) (fun c2 => ?_)
      · have kc2 := c_lt c2
        refine lv_iload hx hb dX9_mend_95 (lv_at hl 1 rfl) ?_
        refine lv_iload_n hx hb dX9_mend_97 rfl (lv_at hl 5 rfl) ?_
        refine tSI (As := [.int v43_l4, .int p2]) (rest := []) ⟨hx, hb, hml, hown, hts⟩ hK hE hP hD hS hA hAB (s_X9_toldOf_0 l B0 adK adV D cy ad f v43_l4 (by omega) p2 (by omega) _) (va_cwS 2 hts gX9_mend_X9_toldOf rfl rfl rfl (by decide +kernel) ⟨Nat.le_of_ble_eq_true rfl, Nat.le_of_ble_eq_true rfl⟩) rfl hl.1 rfl (Nat.le_of_ble_eq_true rfl) dX9_mend_98 ⟨Nat.le_of_ble_eq_true rfl, Nat.le_of_ble_eq_true rfl⟩ (fun r g H locs hw hP hD hS => ?_)
        obtain ⟨hrs, rfl⟩ := hw
        obtain ⟨x3, rfl⟩ : ∃ q, q = r := ⟨_, rfl⟩
        have h4 := hrs
        exact tI hx hb hr hlk rfl hP hS ⟨(by omega), ⟨v43_p_m_askStrand, v43_p_m_askTied, v43_p_c_roundOf, hT⟩⟩ dX9_mend_101
      · have kc2 := c_nlt c2
        refine lv_iload hx hb dX9_mend_49 (lv_at hl 0 rfl) ?_
        refine lv_iload_n hx hb dX9_mend_51 rfl (lv_at hl 2 rfl) ?_
        refine lv_iconst (v := (-1)) hx hb dX9_mend_52 (by decide) ?_
        refine lv_ixor hx hb dX9_mend_53 ?_
        refine lv_topi (fun x5 ex5 => ?_)
        refine lv_iand hx hb dX9_mend_54 ?_
        refine lv_topi (fun x6 ex6 => ?_)
        have hx6 := r_andl ex6 (by omega)
        have ttl_0 := tl_0
        refine lv_if_ne (tgt := 89) hx hb dX9_mend_55 (by decide) (fun c7 => ?_) (fun c7 => ?_)
        · have kc7 := c_ne c7
          exact j89 f H locs ls v43_l4 v43_p_m_askStrand v43_p_m_askTied v43_p_c_roundOf (by omega) (by omega) (by omega) (by omega) (by omega) hT hP hD hS (lv_sub hl [0, 1, 2, 3, 4, 5] rfl)
        · have kc7 := c_eq c7
          refine lv_iload hx hb dX9_mend_58 (lv_at hl 0 rfl) ?_
          refine lv_iload hx hb dX9_mend_60 (lv_at hl 1 rfl) ?_
          refine tSI (As := [.int v43_l5, .int v43_l4]) (rest := []) ⟨hx, hb, hml, hown, hts⟩ hK hE hP hD hS hA hAB (s_X9_isLess_0 l B0 adK adV D cy ad f v43_l5 (by omega) v43_l4 (by omega) _) (va_cwS 2 hts gX9_mend_X9_isLess rfl rfl rfl (by decide +kernel) ⟨Nat.le_of_ble_eq_true rfl, Nat.le_of_ble_eq_true rfl⟩) rfl hl.1 rfl (Nat.le_of_ble_eq_true rfl) dX9_mend_62 ⟨Nat.le_of_ble_eq_true rfl, Nat.le_of_ble_eq_true rfl⟩ (fun r g H locs hw hP hD hS => ?_)
          obtain ⟨hrs, rfl⟩ := hw
          obtain ⟨x8, rfl⟩ : ∃ q, q = r := ⟨_, rfl⟩
          rcases hrs with rfl | rfl
          · refine lv_if_eq (tgt := 89) hx hb dX9_mend_65 (by decide) (fun c => absurd c (by decide)) (fun _ => ?_)
            refine lv_aload_n hx hb dX9_mend_68 rfl (lv_at hl 3 rfl) ?_
            refine lv_iload_n hx hb dX9_mend_69 rfl (lv_at hl 4 rfl) ?_
            refine lv_aload_n hx hb dX9_mend_70 rfl (lv_at hl 3 rfl) ?_
            obtain ⟨e24, h9, h10, h11, h12, h13, h14, h15, h16, h17, h18, h19, h20, h21, h22, h23⟩ := (show okX9 ad m_taped m_size m_faultKind m_faultPlace m_at m_end m_token m_number m_name m_bank m_rb m_codes m_within m_piled m_unitsInRule v43_p_m_askStrand v43_p_m_askTied m_thoughtClaim m_thoughtNeed m_thoughtAll m_acts m_undone m_laid m_firstMove m_seens m_time m_waysNow m_fitting 148 (f 148) from hT.1 148 (by decide))
            refine va_get (D := D) (cl := vwCl) (ci := 9) (v := .ref (ad 169)) (C := RX9) (T := TX9) (N := 64) hx hb hts in_X9_mend_X9 hown hK hP 148 (wl_at (by decide) e24) rfl 37 (by decide) (hts (.fieldLink RX9 76 "EightReasonsModel" "all" "[I") (List.mem_of_getElem? (i := 1) rfl)) (fun _ h9 => h9) rfl dX9_mend_71 ?_
            refine lv_iconst (v := 1) hx hb dX9_mend_74 (by decide) ?_
            obtain ⟨g27, e25, h26⟩ := (show okIr cy 16 (0) (4095) 16 1 (f 169) from hT.1 169 (by decide))
            have ttl_1 := tl_1
            refine va_iald hx hb hK hP 169 0 (wl_at (by decide) e25) rfl (vin (by decide)) dX9_mend_75 ?_
            refine lv_topi (fun x28 ex28 => ?_)
            have hx28 := r_el (h26 _ (by decide)) ex28
            refine lv_iload hx hb dX9_mend_76 (lv_at hl 0 rfl) ?_
            refine lv_ior hx hb dX9_mend_78 ?_
            refine lv_topi (fun x29 ex29 => ?_)
            have hx29 := r_or (k := 12) (K := 4096) ex29 (by decide) (by decide) (by omega) (by omega) (by omega) (by omega)
            refine tVI (As := [.int p1, .int x29]) (rest := []) (i := 148) ⟨hx, hb, hml, hown, hts⟩ hK hE hP hD hS hA hAB (s_X9_doesStand_0 l B0 adK adV D cy ad fr0 c_text m_taped m_size m_faultKind m_faultPlace m_at m_end m_token m_number m_name c_points c_strands c_units c_told c_ruleFrom c_ruleTo c_code c_eWhat c_eSign m_bank m_rb m_codes m_within m_piled m_unitsInRule v43_p_m_askStrand v43_p_m_askTied m_thoughtClaim m_thoughtNeed m_thoughtAll v43_p_c_roundOf m_acts m_undone m_laid m_firstMove m_seens m_time m_waysNow m_fitting f hT p1 (by omega) x29 (by omega) hCV _) (cwV 2 hts gX9_mend_X9_doesStand rfl rfl rfl (by decide +kernel) ⟨Nat.le_of_ble_eq_true rfl, Nat.le_of_ble_eq_true rfl⟩) (by decide) 9 e24 rfl rfl hl.1 rfl (Nat.le_of_ble_eq_true rfl) dX9_mend_79 ⟨Nat.le_of_ble_eq_true rfl, Nat.le_of_ble_eq_true rfl⟩ (fun r f H locs hw hP hD hS => ?_)
            obtain ⟨hrs, x30, x31, y32, hT, h33⟩ := hw
            obtain ⟨x34, rfl⟩ : ∃ q, q = r := ⟨_, rfl⟩
            rcases hrs with rfl | rfl
            · refine lv_if_eq (tgt := 89) hx hb dX9_mend_82 (by decide) (fun c => absurd c (by decide)) (fun _ => ?_)
              refine lv_iload hx hb dX9_mend_85 (lv_at hl 0 rfl) ?_
              refine lv_istore (lv' := [(4, .int v43_l5), (5, .int v43_l5), (3, .int v43_l3), (0, .ref (ad 148)), (1, .int p1), (2, .int p2)]) hx hb dX9_mend_87 hl (by decide) rfl (fun ls hl => ?_)
              exact j89 f H locs ls v43_l5 x30 x31 y32 (by omega) (by omega) (by omega) (by omega) (by omega) hT hP hD hS (lv_sub hl [1, 0, 2, 3, 4, 5] rfl)
            · refine lv_if_eq (tgt := 89) hx hb dX9_mend_82 (by decide) (fun _ => ?_) (fun c => absurd (by decide) c)
              exact j89 f H locs ls v43_l4 x30 x31 y32 (by omega) (by omega) (by omega) (by omega) (by omega) hT hP hD hS (lv_sub hl [0, 1, 2, 3, 4, 5] rfl)
          · refine lv_if_eq (tgt := 89) hx hb dX9_mend_65 (by decide) (fun _ => ?_) (fun c => absurd (by decide) c)
            exact j89 f H locs ls v43_l4 v43_p_m_askStrand v43_p_m_askTied v43_p_c_roundOf (by omega) (by omega) (by omega) (by omega) (by omega) hT hP hD hS (lv_sub hl [0, 1, 2, 3, 4, 5] rfl)
  refine lv_aload_n hx hb dX9_mend_0 rfl (lv_at hl 0 rfl) ?_
  refine lv_iload_n hx hb dX9_mend_1 rfl (lv_at hl 1 rfl) ?_
  obtain ⟨e50, h35, h36, h37, h38, h39, h40, h41, h42, h43, h44, h45, h46, h47, h48, h49⟩ := (show okX9 ad m_taped m_size m_faultKind m_faultPlace m_at m_end m_token m_number m_name m_bank m_rb m_codes m_within m_piled m_unitsInRule m_askStrand m_askTied m_thoughtClaim m_thoughtNeed m_thoughtAll m_acts m_undone m_laid m_firstMove m_seens m_time m_waysNow m_fitting 148 (f 148) from hT.1 148 (by decide))
  refine tVI (As := [.int p1]) (rest := []) (i := 148) ⟨hx, hb, hml, hown, hts⟩ hK hE hP hD hS hA hAB (s_X9_isClaim_0 l B0 adK adV D cy ad fr0 c_text m_taped m_size m_faultKind m_faultPlace m_at m_end m_token m_number m_name c_points c_strands c_units c_told c_ruleFrom c_ruleTo c_code c_eWhat c_eSign m_bank m_rb m_codes m_within m_piled m_unitsInRule m_askStrand m_askTied m_thoughtClaim m_thoughtNeed m_thoughtAll c_roundOf m_acts m_undone m_laid m_firstMove m_seens m_time m_waysNow m_fitting f hT p1 _) (cwV 1 hts gX9_mend_X9_isClaim rfl rfl rfl (by decide +kernel) ⟨Nat.le_of_ble_eq_true rfl, Nat.le_of_ble_eq_true rfl⟩) (by decide) 9 e50 rfl rfl hl.1 rfl (Nat.le_of_ble_eq_true rfl) dX9_mend_2 ⟨Nat.le_of_ble_eq_true rfl, Nat.le_of_ble_eq_true rfl⟩ (fun r g H locs hw hP hD hS => ?_)
  obtain ⟨hrs, rfl⟩ := hw
  obtain ⟨x51, rfl⟩ : ∃ q, q = r := ⟨_, rfl⟩
  rcases hrs with ⟨rfl, h52, h53⟩ | rfl
  · refine lv_if_eq (tgt := 17) hx hb dX9_mend_5 (by decide) (fun c => absurd c (by decide)) (fun _ => ?_)
    refine lv_iload_n hx hb dX9_mend_8 rfl (lv_at hl 2 rfl) ?_
    refine lv_iconst (v := 0) hx hb dX9_mend_9 (by decide) ?_
    refine lv_iconst (v := 1) hx hb dX9_mend_10 (by decide) ?_
    have ttl_0 := tl_0
    have ttl_1 := tl_1
    refine tSI (As := [.int p2, .int 0, .int 1]) (rest := []) ⟨hx, hb, hml, hown, hts⟩ hK hE hP hD hS hA hAB (s_X9_isIn_0 l B0 adK adV D cy ad f p2 (0 : Int32) (by omega) (1 : Int32) (by omega) _) (va_cwS 3 hts gX9_mend_X9_isIn rfl rfl rfl (by decide +kernel) ⟨Nat.le_of_ble_eq_true rfl, Nat.le_of_ble_eq_true rfl⟩) rfl hl.1 rfl (Nat.le_of_ble_eq_true rfl) dX9_mend_11 ⟨Nat.le_of_ble_eq_true rfl, Nat.le_of_ble_eq_true rfl⟩ (fun r g H locs hw hP hD hS => ?_)
    obtain ⟨hrs, rfl⟩ := hw
    obtain ⟨x54, rfl⟩ : ∃ q, q = r := ⟨_, rfl⟩
    rcases hrs with ⟨rfl, h55, h56⟩ | rfl
    · refine lv_if_ne (tgt := 19) hx hb dX9_mend_14 (by decide) (fun _ => ?_) (fun c => absurd c (by decide))
      refine lv_iconst (v := 1) hx hb dX9_mend_19 (by decide) ?_
      refine lv_aload_n hx hb dX9_mend_20 rfl (lv_at hl 0 rfl) ?_
      refine tVI (As := []) (rest := [.int 1]) (i := 148) ⟨hx, hb, hml, hown, hts⟩ hK hE hP hD hS hA hAB (s_X9_threads_0 l B0 adK adV D cy ad fr0 c_text m_taped m_size m_faultKind m_faultPlace m_at m_end m_token m_number m_name c_points c_strands c_units c_told c_ruleFrom c_ruleTo c_code c_eWhat c_eSign m_bank m_rb m_codes m_within m_piled m_unitsInRule m_askStrand m_askTied m_thoughtClaim m_thoughtNeed m_thoughtAll c_roundOf m_acts m_undone m_laid m_firstMove m_seens m_time m_waysNow m_fitting f hT _) (cwV 0 hts gX9_mend_X9_threads rfl rfl rfl (by decide +kernel) ⟨Nat.le_of_ble_eq_true rfl, Nat.le_of_ble_eq_true rfl⟩) (by decide) 9 e50 rfl rfl hl.1 rfl (Nat.le_of_ble_eq_true rfl) dX9_mend_21 ⟨Nat.le_of_ble_eq_true rfl, Nat.le_of_ble_eq_true rfl⟩ (fun r g H locs hw hP hD hS => ?_)
      obtain ⟨hrs, rfl⟩ := hw
      obtain ⟨x57, rfl⟩ : ∃ q, q = r := ⟨_, rfl⟩
      have h58 := hrs
      refine lv_ishl hx hb dX9_mend_24 ?_
      refine lv_topi (fun x59 ex59 => ?_)
      have hx59 := r_shl (K := 12) (M := 4096) ex59 (by decide) (by decide) (by omega) (by omega)
      refine lv_iconst (v := 1) hx hb dX9_mend_25 (by decide) ?_
      refine lv_isub hx hb dX9_mend_26 ?_
      refine lv_topi (fun x60 ex60 => ?_)
      have hx60 := r_sub ex60 (by omega) (by omega)
      refine lv_aload_n hx hb dX9_mend_27 rfl (lv_at hl 0 rfl) ?_
      refine va_get (D := D) (cl := vwCl) (ci := 9) (v := .ref (ad 169)) (C := RX9) (T := TX9) (N := 64) hx hb hts in_X9_mend_X9 hown hK hP 148 (wl_at (by decide) e50) rfl 37 (by decide) (hts (.fieldLink RX9 76 "EightReasonsModel" "all" "[I") (List.mem_of_getElem? (i := 1) rfl)) (fun _ h9 => h9) rfl dX9_mend_28 ?_
      refine lv_iconst (v := 1) hx hb dX9_mend_31 (by decide) ?_
      obtain ⟨g63, e61, h62⟩ := (show okIr cy 16 (0) (4095) 16 1 (f 169) from hT.1 169 (by decide))
      refine va_iald hx hb hK hP 169 0 (wl_at (by decide) e61) rfl (vin (by decide)) dX9_mend_32 ?_
      refine lv_topi (fun x64 ex64 => ?_)
      have hx64 := r_el (h62 _ (by decide)) ex64
      refine lv_iconst (v := (-1)) hx hb dX9_mend_33 (by decide) ?_
      refine lv_ixor hx hb dX9_mend_34 ?_
      refine lv_topi (fun x65 ex65 => ?_)
      refine lv_iand hx hb dX9_mend_35 ?_
      refine lv_topi (fun x66 ex66 => ?_)
      have hx66 := r_andl ex66 (by omega)
      refine lv_istore_n (lv' := [(3, .int x66), (0, .ref (ad 148)), (1, .int p1), (2, .int p2)]) hx hb dX9_mend_36 rfl hl (by decide) rfl (fun ls hl => ?_)
      refine lv_iconst (v := (-1)) hx hb dX9_mend_37 (by decide) ?_
      refine lv_istore (lv' := [(4, .int (-1)), (3, .int x66), (0, .ref (ad 148)), (1, .int p1), (2, .int p2)]) hx hb dX9_mend_38 hl (by decide) rfl (fun ls hl => ?_)
      refine lv_iconst (v := 0) hx hb dX9_mend_40 (by decide) ?_
      refine lv_istore (lv' := [(5, .int 0), (4, .int (-1)), (3, .int x66), (0, .ref (ad 148)), (1, .int p1), (2, .int p2)]) hx hb dX9_mend_41 hl (by decide) rfl (fun ls hl => ?_)
      have ttl_m1 := tl_m1
      exact j43 (Int.toNat (4097 - (0 : Int32).toInt)) f H locs ls (0 : Int32) ((-1) : Int32) x66 m_askStrand m_askTied c_roundOf (by omega) (by omega) (by omega) (by omega) (by omega) (by omega) hT hP hD hS (lv_sub hl [0, 1, 2, 3, 4, 5] rfl)
    · refine lv_if_ne (tgt := 19) hx hb dX9_mend_14 (by decide) (fun c => absurd (by decide) c) (fun _ => ?_)
      refine lv_iconst (v := (-1)) hx hb dX9_mend_17 (by decide) ?_
      have ttl_m1 := tl_m1
      exact tI hx hb hr hlk rfl hP hS ⟨(by omega), ⟨m_askStrand, m_askTied, c_roundOf, hT⟩⟩ dX9_mend_18
  · refine lv_if_eq (tgt := 17) hx hb dX9_mend_5 (by decide) (fun _ => ?_) (fun c => absurd (by decide) c)
    refine lv_iconst (v := (-1)) hx hb dX9_mend_17 (by decide) ?_
    have ttl_m1 := tl_m1
    exact tI hx hb hr hlk rfl hP hS ⟨(by omega), ⟨m_askStrand, m_askTied, c_roundOf, hT⟩⟩ dX9_mend_18
set_option maxHeartbeats 4000000 in
set_option maxRecDepth 100000 in
theorem s_X9_proof_0 (l : Launch) (B0 : Nat) (adK adV : Nat → Nat) (D : va_G) (cy : Nat → ClassId) (ad : Nat → Nat) (fr0 : Nat → va_E) (c_text : Nat → Int32) (m_taped : Int32) (m_size : Int32) (m_faultKind : Int32) (m_faultPlace : Int32) (m_at : Int32) (m_end : Int32) (m_token : Int32) (m_number : Int32) (m_name : Int64) (c_points : Nat → Int32) (c_strands : Nat → Int32) (c_units : Nat → Int32) (c_told : Nat → Int32) (c_ruleFrom : Nat → Int32) (c_ruleTo : Nat → Int32) (c_code : Nat → Int32) (c_eWhat : Nat → Int32) (c_eSign : Nat → Int32) (m_bank : Int32) (m_rb : Int32) (m_codes : Int32) (m_within : Int32) (m_piled : Int32) (m_unitsInRule : Int32) (m_askStrand : Int32) (m_askTied : Int32) (m_thoughtClaim : Int32) (m_thoughtNeed : Int32) (m_thoughtAll : Int32) (c_roundOf : Nat → Int32) (m_acts : Int32) (m_undone : Int32) (m_laid : Int32) (m_firstMove : Int32) (m_seens : Int32) (m_time : Int32) (m_waysNow : Int32) (m_fitting : Int32) (f : Nat → va_E) (hT : TYm ad cy fr0 c_text m_taped m_size m_faultKind m_faultPlace m_at m_end m_token m_number m_name c_points c_strands c_units c_told c_ruleFrom c_ruleTo c_code c_eWhat c_eSign m_bank m_rb m_codes m_within m_piled m_unitsInRule m_askStrand m_askTied m_thoughtClaim m_thoughtNeed m_thoughtAll c_roundOf m_acts m_undone m_laid m_firstMove m_seens m_time m_waysNow m_fitting f) (p1 : Int32) (hCV : CVp c_told c_ruleFrom c_ruleTo c_code m_bank) (sz : Nat) : TtI l yX9_proof wsX9_proof 9 204 [.ref (ad 148), .int p1] B0 adK adV D cy ad f sz (fun (r : Int32) (g : Nat → va_E) => (-1 ≤ r.toInt ∧ r.toInt ≤ 10) ∧ (∃ (m_askStrand' : Int32) (m_askTied' : Int32) (c_roundOf' : Nat → Int32) (m_laid' : Int32), TYm ad cy fr0 c_text m_taped m_size m_faultKind m_faultPlace m_at m_end m_token m_number m_name c_points c_strands c_units c_told c_ruleFrom c_ruleTo c_code c_eWhat c_eSign m_bank m_rb m_codes m_within m_piled m_unitsInRule m_askStrand' m_askTied' m_thoughtClaim m_thoughtNeed m_thoughtAll c_roundOf' m_acts m_undone m_laid' m_firstMove m_seens m_time m_waysNow m_fitting g)) := by
  refine TtI.of (cc := cX9_proof) (maxL := 6) (ty := .int) (own := RX9) (by decide) rfl (Nat.le_of_ble_eq_true rfl) rfl ?_
  intro p e s m below meth c A ls hx hb hr hml hts hown hlk hK hE hP hD hS hA hAB hl
  have hl : lv_has ls 6 [(0, .ref (ad 148)), (1, .int p1)] := hl
  refine st0 (fun H locs hP hS => ?_) hP hS
  have j36 : ∀ (N : Nat) (f : Nat → va_E) (H : Heap) (locs : List Loc) (ls : Array Slot) (v36_l4 : Int32) (v36_l3 : Int32) (v36_l2 : Int32) (v36_p_m_askStrand : Int32) (v36_p_m_askTied : Int32) (v36_p_c_roundOf : Nat → Int32) (v36_p_m_laid : Int32), (12 - v36_l4.toInt ≤ (N : Int)) → (0 ≤ v36_l4.toInt ∧ v36_l4.toInt ≤ 11) → (0 ≤ v36_l3.toInt ∧ v36_l3.toInt ≤ 4095) → (0 ≤ v36_l2.toInt ∧ v36_l2.toInt ≤ 4095) → (0 ≤ p1.toInt ∧ p1.toInt ≤ 9) → (0 ≤ v36_p_m_askTied.toInt ∧ v36_p_m_askTied.toInt ≤ 4095) → (v36_p_m_laid.toInt ≤ cntR v36_p_c_roundOf v36_l4.toInt 0) → (TYm ad cy fr0 c_text m_taped m_size m_faultKind m_faultPlace m_at m_end m_token m_number m_name c_points c_strands c_units c_told c_ruleFrom c_ruleTo c_code c_eWhat c_eSign m_bank m_rb m_codes m_within m_piled m_unitsInRule v36_p_m_askStrand v36_p_m_askTied m_thoughtClaim m_thoughtNeed m_thoughtAll v36_p_c_roundOf m_acts m_undone v36_p_m_laid m_firstMove m_seens m_time m_waysNow m_fitting f) → (va_P D vwCl (wl ad f) H) → (va_D A (wl ad f)) → (va_S A s.heap H locs) → (lv_has ls 6 [(4, .int v36_l4), (3, .int v36_l3), (2, .int v36_l2), (0, .ref (ad 148)), (1, .int p1)]) → W p l e (rmO 9 204 0 0) s m ([.ref (ad 148), .int p1] : List Value).toArray below meth c H locs 0 0 (MQ below (va_Qi (fun (r : Int32) (g : Nat → va_E) => (-1 ≤ r.toInt ∧ r.toInt ≤ 10) ∧ (∃ (m_askStrand' : Int32) (m_askTied' : Int32) (c_roundOf' : Nat → Int32) (m_laid' : Int32), TYm ad cy fr0 c_text m_taped m_size m_faultKind m_faultPlace m_at m_end m_token m_number m_name c_points c_strands c_units c_told c_ruleFrom c_ruleTo c_code c_eWhat c_eSign m_bank m_rb m_codes m_within m_piled m_unitsInRule m_askStrand' m_askTied' m_thoughtClaim m_thoughtNeed m_thoughtAll c_roundOf' m_acts m_undone m_laid' m_firstMove m_seens m_time m_waysNow m_fitting g)) (fun g t => PstT D ad g t) A) ([.ref (ad 148), .int p1] : List Value).toArray s 0 0 A) (F0 m 36 ls []) := by
    intro N
    induction N with
    | zero => intro f H locs ls v36_l4 v36_l3 v36_l2 v36_p_m_askStrand v36_p_m_askTied v36_p_c_roundOf v36_p_m_laid hN hv36_l4 hv36_l3 hv36_l2 hv36_l1 hv36_p_m_askTied hJ36_0 hT hP hD hS hl; exact absurd hN (by omega)
    | succ N ih36 =>
      intro f H locs ls v36_l4 v36_l3 v36_l2 v36_p_m_askStrand v36_p_m_askTied v36_p_c_roundOf v36_p_m_laid hN hv36_l4 hv36_l3 hv36_l2 hv36_l1 hv36_p_m_askTied hJ36_0 hT hP hD hS hl
      have j48 : ∀ (N : Nat) (f : Nat → va_E) (H : Heap) (locs : List Loc) (ls : Array Slot) (v48_l5 : Int32) (v48_p_m_laid : Int32), (11 - v48_l5.toInt ≤ (N : Int)) → (0 ≤ v48_l5.toInt ∧ v48_l5.toInt ≤ 10) → (0 ≤ v36_l4.toInt ∧ v36_l4.toInt ≤ 10) → (0 ≤ v36_l3.toInt ∧ v36_l3.toInt ≤ 4095) → (0 ≤ v36_l2.toInt ∧ v36_l2.toInt ≤ 4095) → (0 ≤ p1.toInt ∧ p1.toInt ≤ 9) → (0 ≤ v36_p_m_askTied.toInt ∧ v36_p_m_askTied.toInt ≤ 4095) → (v48_p_m_laid.toInt ≤ cntR v36_p_c_roundOf v36_l4.toInt v48_l5.toInt) → (TYm ad cy fr0 c_text m_taped m_size m_faultKind m_faultPlace m_at m_end m_token m_number m_name c_points c_strands c_units c_told c_ruleFrom c_ruleTo c_code c_eWhat c_eSign m_bank m_rb m_codes m_within m_piled m_unitsInRule v36_p_m_askStrand v36_p_m_askTied m_thoughtClaim m_thoughtNeed m_thoughtAll v36_p_c_roundOf m_acts m_undone v48_p_m_laid m_firstMove m_seens m_time m_waysNow m_fitting f) → (va_P D vwCl (wl ad f) H) → (va_D A (wl ad f)) → (va_S A s.heap H locs) → (lv_has ls 6 [(5, .int v48_l5), (4, .int v36_l4), (3, .int v36_l3), (2, .int v36_l2), (0, .ref (ad 148)), (1, .int p1)]) → W p l e (rmO 9 204 0 0) s m ([.ref (ad 148), .int p1] : List Value).toArray below meth c H locs 0 0 (MQ below (va_Qi (fun (r : Int32) (g : Nat → va_E) => (-1 ≤ r.toInt ∧ r.toInt ≤ 10) ∧ (∃ (m_askStrand' : Int32) (m_askTied' : Int32) (c_roundOf' : Nat → Int32) (m_laid' : Int32), TYm ad cy fr0 c_text m_taped m_size m_faultKind m_faultPlace m_at m_end m_token m_number m_name c_points c_strands c_units c_told c_ruleFrom c_ruleTo c_code c_eWhat c_eSign m_bank m_rb m_codes m_within m_piled m_unitsInRule m_askStrand' m_askTied' m_thoughtClaim m_thoughtNeed m_thoughtAll c_roundOf' m_acts m_undone m_laid' m_firstMove m_seens m_time m_waysNow m_fitting g)) (fun g t => PstT D ad g t) A) ([.ref (ad 148), .int p1] : List Value).toArray s 0 0 A) (F0 m 48 ls []) := by
        intro N
        induction N with
        | zero => intro f H locs ls v48_l5 v48_p_m_laid hN hv48_l5 hv48_l4 hv48_l3 hv48_l2 hv48_l1 hv48_p_m_askTied hJ48_0 hT hP hD hS hl; exact absurd hN (by omega)
        | succ N ih48 =>
          intro f H locs ls v48_l5 v48_p_m_laid hN hv48_l5 hv48_l4 hv48_l3 hv48_l2 hv48_l1 hv48_p_m_askTied hJ48_0 hT hP hD hS hl
          have j102 : ∀ (f : Nat → va_E) (H : Heap) (locs : List Loc) (ls : Array Slot) (v102_p_m_laid : Int32), (0 ≤ v48_l5.toInt ∧ v48_l5.toInt ≤ 9) → (0 ≤ v36_l4.toInt ∧ v36_l4.toInt ≤ 10) → (0 ≤ v36_l3.toInt ∧ v36_l3.toInt ≤ 4095) → (0 ≤ v36_l2.toInt ∧ v36_l2.toInt ≤ 4095) → (0 ≤ p1.toInt ∧ p1.toInt ≤ 9) → (0 ≤ v36_p_m_askTied.toInt ∧ v36_p_m_askTied.toInt ≤ 4095) → (v102_p_m_laid.toInt ≤ cntR v36_p_c_roundOf v36_l4.toInt (v48_l5.toInt + 1)) → (TYm ad cy fr0 c_text m_taped m_size m_faultKind m_faultPlace m_at m_end m_token m_number m_name c_points c_strands c_units c_told c_ruleFrom c_ruleTo c_code c_eWhat c_eSign m_bank m_rb m_codes m_within m_piled m_unitsInRule v36_p_m_askStrand v36_p_m_askTied m_thoughtClaim m_thoughtNeed m_thoughtAll v36_p_c_roundOf m_acts m_undone v102_p_m_laid m_firstMove m_seens m_time m_waysNow m_fitting f) → (va_P D vwCl (wl ad f) H) → (va_D A (wl ad f)) → (va_S A s.heap H locs) → (lv_has ls 6 [(5, .int v48_l5), (4, .int v36_l4), (3, .int v36_l3), (2, .int v36_l2), (0, .ref (ad 148)), (1, .int p1)]) → W p l e (rmO 9 204 0 0) s m ([.ref (ad 148), .int p1] : List Value).toArray below meth c H locs 0 0 (MQ below (va_Qi (fun (r : Int32) (g : Nat → va_E) => (-1 ≤ r.toInt ∧ r.toInt ≤ 10) ∧ (∃ (m_askStrand' : Int32) (m_askTied' : Int32) (c_roundOf' : Nat → Int32) (m_laid' : Int32), TYm ad cy fr0 c_text m_taped m_size m_faultKind m_faultPlace m_at m_end m_token m_number m_name c_points c_strands c_units c_told c_ruleFrom c_ruleTo c_code c_eWhat c_eSign m_bank m_rb m_codes m_within m_piled m_unitsInRule m_askStrand' m_askTied' m_thoughtClaim m_thoughtNeed m_thoughtAll c_roundOf' m_acts m_undone m_laid' m_firstMove m_seens m_time m_waysNow m_fitting g)) (fun g t => PstT D ad g t) A) ([.ref (ad 148), .int p1] : List Value).toArray s 0 0 A) (F0 m 102 ls []) := by
            intro f H locs ls v102_p_m_laid hv102_l5 hv102_l4 hv102_l3 hv102_l2 hv102_l1 hv102_p_m_askTied hJ102_0 hT hP hD hS hl
            obtain ⟨x1, ex1⟩ : ∃ q : Int32, q = v48_l5 + Int32.ofInt (1) := ⟨_, rfl⟩
            refine lv_iinc (v := x1) (lv' := [(5, .int x1), (4, .int v36_l4), (3, .int v36_l3), (2, .int v36_l2), (0, .ref (ad 148)), (1, .int p1)]) hx hb dX9_proof_102 hl (k := 0) rfl ex1.symm (by decide) rfl (fun ls hl => ?_)
            have hx1 := r_inc ex1 (by decide) (by omega) (by omega)
            have hcc := congrArg (cntR v36_p_c_roundOf v36_l4.toInt) hx1
            refine lv_goto (tgt := 48) hx hb dX9_proof_105 (by decide) ?_
            obtain ⟨e17, h2, h3, h4, h5, h6, h7, h8, h9, h10, h11, h12, h13, h14, h15, h16⟩ := (show okX9 ad m_taped m_size m_faultKind m_faultPlace m_at m_end m_token m_number m_name m_bank m_rb m_codes m_within m_piled m_unitsInRule v36_p_m_askStrand v36_p_m_askTied m_thoughtClaim m_thoughtNeed m_thoughtAll m_acts m_undone v102_p_m_laid m_firstMove m_seens m_time m_waysNow m_fitting 148 (f 148) from hT.1 148 (by decide))
            exact ih48 f H locs ls x1 v102_p_m_laid (by omega) (by omega) (by omega) (by omega) (by omega) (by omega) (by omega) (by omega) hT hP hD hS (lv_sub hl [0, 1, 2, 3, 4, 5] rfl)
          refine lv_iload hx hb dX9_proof_48 (lv_at hl 0 rfl) ?_
          refine lv_aload_n hx hb dX9_proof_50 rfl (lv_at hl 4 rfl) ?_
          obtain ⟨e33, h18, h19, h20, h21, h22, h23, h24, h25, h26, h27, h28, h29, h30, h31, h32⟩ := (show okX9 ad m_taped m_size m_faultKind m_faultPlace m_at m_end m_token m_number m_name m_bank m_rb m_codes m_within m_piled m_unitsInRule v36_p_m_askStrand v36_p_m_askTied m_thoughtClaim m_thoughtNeed m_thoughtAll m_acts m_undone v48_p_m_laid m_firstMove m_seens m_time m_waysNow m_fitting 148 (f 148) from hT.1 148 (by decide))
          refine tVI (As := []) (rest := [.int v48_l5]) (i := 148) ⟨hx, hb, hml, hown, hts⟩ hK hE hP hD hS hA hAB (s_X9_many_0 l B0 adK adV D cy ad fr0 c_text m_taped m_size m_faultKind m_faultPlace m_at m_end m_token m_number m_name c_points c_strands c_units c_told c_ruleFrom c_ruleTo c_code c_eWhat c_eSign m_bank m_rb m_codes m_within m_piled m_unitsInRule v36_p_m_askStrand v36_p_m_askTied m_thoughtClaim m_thoughtNeed m_thoughtAll v36_p_c_roundOf m_acts m_undone v48_p_m_laid m_firstMove m_seens m_time m_waysNow m_fitting f hT _) (cwV 0 hts gX9_proof_X9_many rfl rfl rfl (by decide +kernel) ⟨Nat.le_of_ble_eq_true rfl, Nat.le_of_ble_eq_true rfl⟩) (by decide) 9 e33 rfl rfl hl.1 rfl (Nat.le_of_ble_eq_true rfl) dX9_proof_51 ⟨Nat.le_of_ble_eq_true rfl, Nat.le_of_ble_eq_true rfl⟩ (fun r g H locs hw hP hD hS => ?_)
          obtain ⟨hrs, rfl⟩ := hw
          obtain ⟨x34, rfl⟩ : ∃ q, q = r := ⟨_, rfl⟩
          have h35 := hrs
          refine lv_icmp_ge (tgt := 108) hx hb dX9_proof_54 (by decide) (fun c36 => ?_) (fun c36 => ?_)
          · have kc36 := c_le c36
            have hcn := cntR_next (g := v36_p_c_roundOf) (r := v36_l4.toInt) (p := v48_l5.toInt)
            have hgen : ∀ w : Int, w = v36_l4.toInt + 1 → cntR v36_p_c_roundOf w 0 = cntR v36_p_c_roundOf (v36_l4.toInt + 1) 0 := fun w hw => by rw [hw]
            obtain ⟨x37, ex37⟩ : ∃ q : Int32, q = v36_l4 + Int32.ofInt (1) := ⟨_, rfl⟩
            refine lv_iinc (v := x37) (lv' := [(4, .int x37), (5, .int v48_l5), (3, .int v36_l3), (2, .int v36_l2), (0, .ref (ad 148)), (1, .int p1)]) hx hb dX9_proof_108 hl (k := 1) rfl ex37.symm (by decide) rfl (fun ls hl => ?_)
            have hx37 := r_inc ex37 (by decide) (by omega) (by omega)
            have hcc := hgen _ hx37
            refine lv_goto (tgt := 36) hx hb dX9_proof_111 (by decide) ?_
            exact ih36 f H locs ls x37 v36_l3 v36_l2 v36_p_m_askStrand v36_p_m_askTied v36_p_c_roundOf v48_p_m_laid (by omega) (by omega) (by omega) (by omega) (by omega) (by omega) (by omega) hT hP hD hS (lv_sub hl [0, 2, 3, 4, 5] rfl)
          · have kc36 := c_nle c36
            have hcm := cntR_up (g := v36_p_c_roundOf) (r := v36_l4.toInt) (p := v48_l5.toInt)
            refine lv_iload_n hx hb dX9_proof_57 rfl (lv_at hl 2 rfl) ?_
            refine lv_iload hx hb dX9_proof_58 (lv_at hl 0 rfl) ?_
            refine tSI (As := [.int v36_l3, .int v48_l5]) (rest := []) ⟨hx, hb, hml, hown, hts⟩ hK hE hP hD hS hA hAB (s_X9_bit_0 l B0 adK adV D cy ad f v36_l3 v48_l5 (by omega) _) (va_cwS 2 hts gX9_proof_X9_bit rfl rfl rfl (by decide +kernel) ⟨Nat.le_of_ble_eq_true rfl, Nat.le_of_ble_eq_true rfl⟩) rfl hl.1 rfl (Nat.le_of_ble_eq_true rfl) dX9_proof_60 ⟨Nat.le_of_ble_eq_true rfl, Nat.le_of_ble_eq_true rfl⟩ (fun r g H locs hw hP hD hS => ?_)
            obtain ⟨hrs, rfl⟩ := hw
            obtain ⟨x38, rfl⟩ : ∃ q, q = r := ⟨_, rfl⟩
            rcases hrs with ⟨rfl, h39⟩ | ⟨rfl, h40⟩
            · refine lv_if_eq (tgt := 102) hx hb dX9_proof_63 (by decide) (fun c => absurd c (by decide)) (fun _ => ?_)
              refine lv_aload_n hx hb dX9_proof_66 rfl (lv_at hl 4 rfl) ?_
              refine va_get (D := D) (cl := vwCl) (ci := 9) (v := .ref (ad 172)) (C := RX9) (T := TX9) (N := 64) hx hb hts in_X9_proof_X9 hown hK hP 148 (wl_at (by decide) e33) rfl 43 (by decide) (hts (.fieldLink RX9 91 "EightReasonsModel" "roundOf" "[I") (List.mem_of_getElem? (i := 2) rfl)) (fun _ h9 => h9) rfl dX9_proof_67 ?_
              refine lv_iload hx hb dX9_proof_70 (lv_at hl 0 rfl) ?_
              have e41 : f 172 = _ := (show okIp cy 10 v36_p_c_roundOf (f 172) from hT.1 172 (by decide))
              refine va_iald hx hb hK hP 172 0 (wl_at (by decide) e41) rfl (vp_in_iff.mpr ⟨by omega, by omega⟩) dX9_proof_72 ?_
              refine lv_topi (fun x42 ex42 => ?_)
              have kx42 := congrArg Int32.toInt ex42
              refine lv_iload hx hb dX9_proof_73 (lv_at hl 1 rfl) ?_
              refine lv_icmp_eq (tgt := 81) hx hb dX9_proof_75 (by decide) (fun c43 => ?_) (fun c43 => ?_)
              · have kc43 := c_eq c43
                have hcr := cntR_hit (g := v36_p_c_roundOf) (r := v36_l4.toInt) (p := v48_l5) (by omega) (by omega) (by omega)
                refine lv_aload_n hx hb dX9_proof_81 rfl (lv_at hl 4 rfl) ?_
                refine va_get (D := D) (cl := vwCl) (ci := 9) (v := .ref (ad 174)) (C := RX9) (T := TX9) (N := 64) hx hb hts in_X9_proof_X9 hown hK hP 148 (wl_at (by decide) e33) rfl 47 (by decide) (hts (.fieldLink RX9 97 "EightReasonsModel" "laidRow" "[I") (List.mem_of_getElem? (i := 3) rfl)) (fun _ h9 => h9) rfl dX9_proof_82 ?_
                refine lv_aload_n hx hb dX9_proof_85 rfl (lv_at hl 4 rfl) ?_
                refine va_get (D := D) (cl := vwCl) (ci := 9) (v := .int v48_p_m_laid) (C := RX9) (T := TX9) (N := 64) hx hb hts in_X9_proof_X9 hown hK hP 148 (wl_at (by decide) e33) rfl 48 (by decide) (hts (.fieldLink RX9 377 "EightReasonsModel" "laid" "I") (List.mem_of_getElem? (i := 1) rfl)) (fun _ h9 => h9) rfl dX9_proof_86 ?_
                refine lv_iload hx hb dX9_proof_89 (lv_at hl 0 rfl) ?_
                have ha44 : 0 ≤ v48_p_m_laid.toInt ∧ v48_p_m_laid.toInt ≤ 9 := by omega
                obtain ⟨g46, e45⟩ := (show okI cy 10 (f 174) from hT.1 174 (by decide))
                refine va_iast hx hb hK hP hD hS 174 0 (wl_at (by decide) e45) rfl (vp_in_iff.mpr ⟨by omega, by omega⟩) dX9_proof_91 (fun H locs hP hD hS => ?_)
                obtain ⟨f, hT, hP, hD, e47, hj48⟩ := stU (by decide) (TYm.up hT (by decide) (show OKm ad cy c_text m_taped m_size m_faultKind m_faultPlace m_at m_end m_token m_number m_name c_points c_strands c_units c_told c_ruleFrom c_ruleTo c_code c_eWhat c_eSign m_bank m_rb m_codes m_within m_piled m_unitsInRule v36_p_m_askStrand v36_p_m_askTied m_thoughtClaim m_thoughtNeed m_thoughtAll v36_p_c_roundOf m_acts m_undone v48_p_m_laid m_firstMove m_seens m_time m_waysNow m_fitting 174 _ from (show okI cy 10 _ from ⟨_, rfl⟩))) hP hD
                have e49 := (hj48 148 (by decide)).trans e33
                have e50 := (hj48 172 (by decide)).trans e41
                refine lv_aload_n hx hb dX9_proof_92 rfl (lv_at hl 4 rfl) ?_
                refine lv_dup hx hb dX9_proof_93 rfl ?_
                refine va_get (D := D) (cl := vwCl) (ci := 9) (v := .int v48_p_m_laid) (C := RX9) (T := TX9) (N := 64) hx hb hts in_X9_proof_X9 hown hK hP 148 (wl_at (by decide) e49) rfl 48 (by decide) (hts (.fieldLink RX9 377 "EightReasonsModel" "laid" "I") (List.mem_of_getElem? (i := 1) rfl)) (fun _ h9 => h9) rfl dX9_proof_94 ?_
                refine lv_iconst (v := 1) hx hb dX9_proof_97 (by decide) ?_
                have ttl_1 := tl_1
                refine lv_iadd hx hb dX9_proof_98 ?_
                refine lv_topi (fun x51 ex51 => ?_)
                have hx51 := r_add ex51 (by omega) (by omega)
                have ha52 : 1 ≤ x51.toInt ∧ x51.toInt ≤ 10 := by omega
                refine va_put (D := D) (cl := vwCl) (ci := 9) (v := .int x51) (ty := tyX9 48) (C := RX9) (T := TX9) (N := 64) hx hb hts in_X9_proof_X9 tyX9 tyX9_ok nmX9 hown hK hP hD hS 148 (wl_at (by decide) e49) rfl 48 (by decide) (hts (.fieldLink RX9 377 "EightReasonsModel" "laid" "I") (List.mem_of_getElem? (i := 1) rfl)) (fun _ h9 => h9) rfl (tyX9_ok 48 (by decide)) rfl rfl (Nat.le_of_ble_eq_true rfl) dX9_proof_99 (fun H locs hP hD hS => ?_)
                obtain ⟨f, hT, hP, hD, e53, hj54⟩ := stU (by decide) (TYm.p148 hT (show OKm ad cy c_text m_taped m_size m_faultKind m_faultPlace m_at m_end m_token m_number m_name c_points c_strands c_units c_told c_ruleFrom c_ruleTo c_code c_eWhat c_eSign m_bank m_rb m_codes m_within m_piled m_unitsInRule v36_p_m_askStrand v36_p_m_askTied m_thoughtClaim m_thoughtNeed m_thoughtAll v36_p_c_roundOf m_acts m_undone x51 m_firstMove m_seens m_time m_waysNow m_fitting 148 _ from (show okX9 ad m_taped m_size m_faultKind m_faultPlace m_at m_end m_token m_number m_name m_bank m_rb m_codes m_within m_piled m_unitsInRule v36_p_m_askStrand v36_p_m_askTied m_thoughtClaim m_thoughtNeed m_thoughtAll m_acts m_undone x51 m_firstMove m_seens m_time m_waysNow m_fitting 148 _ from ⟨rfl, by omega, by omega, by omega, by omega, by omega, by omega, by omega, by omega, by omega, by omega, by omega, by omega, by omega, by omega, by omega⟩))) hP hD
                have e55 := (hj54 172 (by decide)).trans e50
                exact j102 f H locs ls x51 (by omega) (by omega) (by omega) (by omega) (by omega) (by omega) (by omega) hT hP hD hS (lv_sub hl [0, 1, 2, 3, 4, 5] rfl)
              · have kc43 := c_ne c43
                refine lv_goto (tgt := 102) hx hb dX9_proof_78 (by decide) ?_
                exact j102 f H locs ls v48_p_m_laid (by omega) (by omega) (by omega) (by omega) (by omega) (by omega) (by omega) hT hP hD hS (lv_sub hl [0, 1, 2, 3, 4, 5] rfl)
            · refine lv_if_eq (tgt := 102) hx hb dX9_proof_63 (by decide) (fun _ => ?_) (fun c => absurd (by decide) c)
              exact j102 f H locs ls v48_p_m_laid (by omega) (by omega) (by omega) (by omega) (by omega) (by omega) (by omega) hT hP hD hS (lv_sub hl [0, 1, 2, 3, 4, 5] rfl)
      refine lv_iload hx hb dX9_proof_36 (lv_at hl 0 rfl) ?_
      refine lv_aload_n hx hb dX9_proof_38 rfl (lv_at hl 3 rfl) ?_
      obtain ⟨e71, h56, h57, h58, h59, h60, h61, h62, h63, h64, h65, h66, h67, h68, h69, h70⟩ := (show okX9 ad m_taped m_size m_faultKind m_faultPlace m_at m_end m_token m_number m_name m_bank m_rb m_codes m_within m_piled m_unitsInRule v36_p_m_askStrand v36_p_m_askTied m_thoughtClaim m_thoughtNeed m_thoughtAll m_acts m_undone v36_p_m_laid m_firstMove m_seens m_time m_waysNow m_fitting 148 (f 148) from hT.1 148 (by decide))
      refine tVI (As := []) (rest := [.int v36_l4]) (i := 148) ⟨hx, hb, hml, hown, hts⟩ hK hE hP hD hS hA hAB (s_X9_many_0 l B0 adK adV D cy ad fr0 c_text m_taped m_size m_faultKind m_faultPlace m_at m_end m_token m_number m_name c_points c_strands c_units c_told c_ruleFrom c_ruleTo c_code c_eWhat c_eSign m_bank m_rb m_codes m_within m_piled m_unitsInRule v36_p_m_askStrand v36_p_m_askTied m_thoughtClaim m_thoughtNeed m_thoughtAll v36_p_c_roundOf m_acts m_undone v36_p_m_laid m_firstMove m_seens m_time m_waysNow m_fitting f hT _) (cwV 0 hts gX9_proof_X9_many rfl rfl rfl (by decide +kernel) ⟨Nat.le_of_ble_eq_true rfl, Nat.le_of_ble_eq_true rfl⟩) (by decide) 9 e71 rfl rfl hl.1 rfl (Nat.le_of_ble_eq_true rfl) dX9_proof_39 ⟨Nat.le_of_ble_eq_true rfl, Nat.le_of_ble_eq_true rfl⟩ (fun r g H locs hw hP hD hS => ?_)
      obtain ⟨hrs, rfl⟩ := hw
      obtain ⟨x72, rfl⟩ : ∃ q, q = r := ⟨_, rfl⟩
      have h73 := hrs
      refine lv_icmp_gt (tgt := 114) hx hb dX9_proof_42 (by decide) (fun c74 => ?_) (fun c74 => ?_)
      · have kc74 := c_lt c74
        refine lv_aload_n hx hb dX9_proof_114 rfl (lv_at hl 3 rfl) ?_
        refine va_get (D := D) (cl := vwCl) (ci := 9) (v := .int v36_p_m_laid) (C := RX9) (T := TX9) (N := 64) hx hb hts in_X9_proof_X9 hown hK hP 148 (wl_at (by decide) e71) rfl 48 (by decide) (hts (.fieldLink RX9 377 "EightReasonsModel" "laid" "I") (List.mem_of_getElem? (i := 1) rfl)) (fun _ h9 => h9) rfl dX9_proof_115 ?_
        exact tI hx hb hr hlk rfl hP hS ⟨(by omega), ⟨v36_p_m_askStrand, v36_p_m_askTied, v36_p_c_roundOf, v36_p_m_laid, hT⟩⟩ dX9_proof_118
      · have kc74 := c_nlt c74
        refine lv_iconst (v := 0) hx hb dX9_proof_45 (by decide) ?_
        have hcz : cntR v36_p_c_roundOf v36_l4.toInt (0 : Int32).toInt = cntR v36_p_c_roundOf v36_l4.toInt 0 := by rw [tl_0]
        refine lv_istore (lv' := [(5, .int 0), (4, .int v36_l4), (3, .int v36_l3), (2, .int v36_l2), (0, .ref (ad 148)), (1, .int p1)]) hx hb dX9_proof_46 hl (by decide) rfl (fun ls hl => ?_)
        have ttl_0 := tl_0
        exact j48 (Int.toNat (11 - (0 : Int32).toInt)) f H locs ls (0 : Int32) v36_p_m_laid (by omega) (by omega) (by omega) (by omega) (by omega) (by omega) (by omega) (by omega) hT hP hD hS (lv_sub hl [0, 1, 2, 3, 4, 5] rfl)
  refine lv_aload_n hx hb dX9_proof_0 rfl (lv_at hl 0 rfl) ?_
  refine lv_iconst (v := 0) hx hb dX9_proof_1 (by decide) ?_
  obtain ⟨e90, h75, h76, h77, h78, h79, h80, h81, h82, h83, h84, h85, h86, h87, h88, h89⟩ := (show okX9 ad m_taped m_size m_faultKind m_faultPlace m_at m_end m_token m_number m_name m_bank m_rb m_codes m_within m_piled m_unitsInRule m_askStrand m_askTied m_thoughtClaim m_thoughtNeed m_thoughtAll m_acts m_undone m_laid m_firstMove m_seens m_time m_waysNow m_fitting 148 (f 148) from hT.1 148 (by decide))
  refine va_put (D := D) (cl := vwCl) (ci := 9) (v := .int 0) (ty := tyX9 48) (C := RX9) (T := TX9) (N := 64) hx hb hts in_X9_proof_X9 tyX9 tyX9_ok nmX9 hown hK hP hD hS 148 (wl_at (by decide) e90) rfl 48 (by decide) (hts (.fieldLink RX9 377 "EightReasonsModel" "laid" "I") (List.mem_of_getElem? (i := 1) rfl)) (fun _ h9 => h9) rfl (tyX9_ok 48 (by decide)) rfl rfl (Nat.le_of_ble_eq_true rfl) dX9_proof_2 (fun H locs hP hD hS => ?_)
  have ttl_0 := tl_0
  obtain ⟨f, hT, hP, hD, e91, hj92⟩ := stU (by decide) (TYm.p148 hT (show OKm ad cy c_text m_taped m_size m_faultKind m_faultPlace m_at m_end m_token m_number m_name c_points c_strands c_units c_told c_ruleFrom c_ruleTo c_code c_eWhat c_eSign m_bank m_rb m_codes m_within m_piled m_unitsInRule m_askStrand m_askTied m_thoughtClaim m_thoughtNeed m_thoughtAll c_roundOf m_acts m_undone 0 m_firstMove m_seens m_time m_waysNow m_fitting 148 _ from (show okX9 ad m_taped m_size m_faultKind m_faultPlace m_at m_end m_token m_number m_name m_bank m_rb m_codes m_within m_piled m_unitsInRule m_askStrand m_askTied m_thoughtClaim m_thoughtNeed m_thoughtAll m_acts m_undone 0 m_firstMove m_seens m_time m_waysNow m_fitting 148 _ from ⟨rfl, by omega, by omega, by omega, by omega, by omega, by omega, by omega, by omega, by omega, by omega, by omega, by omega, by omega, by omega, by omega⟩))) hP hD
  refine lv_aload_n hx hb dX9_proof_5 rfl (lv_at hl 0 rfl) ?_
  refine lv_iload_n hx hb dX9_proof_6 rfl (lv_at hl 1 rfl) ?_
  refine tVI (As := [.int p1]) (rest := []) (i := 148) ⟨hx, hb, hml, hown, hts⟩ hK hE hP hD hS hA hAB (s_X9_isClaim_0 l B0 adK adV D cy ad fr0 c_text m_taped m_size m_faultKind m_faultPlace m_at m_end m_token m_number m_name c_points c_strands c_units c_told c_ruleFrom c_ruleTo c_code c_eWhat c_eSign m_bank m_rb m_codes m_within m_piled m_unitsInRule m_askStrand m_askTied m_thoughtClaim m_thoughtNeed m_thoughtAll c_roundOf m_acts m_undone (0 : Int32) m_firstMove m_seens m_time m_waysNow m_fitting f hT p1 _) (cwV 1 hts gX9_proof_X9_isClaim rfl rfl rfl (by decide +kernel) ⟨Nat.le_of_ble_eq_true rfl, Nat.le_of_ble_eq_true rfl⟩) (by decide) 9 e91 rfl rfl hl.1 rfl (Nat.le_of_ble_eq_true rfl) dX9_proof_7 ⟨Nat.le_of_ble_eq_true rfl, Nat.le_of_ble_eq_true rfl⟩ (fun r g H locs hw hP hD hS => ?_)
  obtain ⟨hrs, rfl⟩ := hw
  obtain ⟨x93, rfl⟩ : ∃ q, q = r := ⟨_, rfl⟩
  rcases hrs with ⟨rfl, h94, h95⟩ | rfl
  · refine lv_if_ne (tgt := 15) hx hb dX9_proof_10 (by decide) (fun _ => ?_) (fun c => absurd c (by decide))
    refine lv_aload_n hx hb dX9_proof_15 rfl (lv_at hl 0 rfl) ?_
    refine lv_iload_n hx hb dX9_proof_16 rfl (lv_at hl 1 rfl) ?_
    refine tVI (As := [.int p1]) (rest := []) (i := 148) ⟨hx, hb, hml, hown, hts⟩ hK hE hP hD hS hA hAB (s_X9_propOf_0 l B0 adK adV D cy ad fr0 c_text m_taped m_size m_faultKind m_faultPlace m_at m_end m_token m_number m_name c_points c_strands c_units c_told c_ruleFrom c_ruleTo c_code c_eWhat c_eSign m_bank m_rb m_codes m_within m_piled m_unitsInRule m_askStrand m_askTied m_thoughtClaim m_thoughtNeed m_thoughtAll c_roundOf m_acts m_undone (0 : Int32) m_firstMove m_seens m_time m_waysNow m_fitting f hT p1 (by omega) hCV _) (cwV 1 hts gX9_proof_X9_propOf rfl rfl rfl (by decide +kernel) ⟨Nat.le_of_ble_eq_true rfl, Nat.le_of_ble_eq_true rfl⟩) (by decide) 9 e91 rfl rfl hl.1 rfl (Nat.le_of_ble_eq_true rfl) dX9_proof_17 ⟨Nat.le_of_ble_eq_true rfl, Nat.le_of_ble_eq_true rfl⟩ (fun r f H locs hw hP hD hS => ?_)
    obtain ⟨hrs, x96, x97, y98, hT, h99⟩ := hw
    obtain ⟨x100, rfl⟩ : ∃ q, q = r := ⟨_, rfl⟩
    have h101 := hrs
    refine lv_istore_n (lv' := [(2, .int x100), (0, .ref (ad 148)), (1, .int p1)]) hx hb dX9_proof_20 rfl hl (by decide) rfl (fun ls hl => ?_)
    refine lv_iload_n hx hb dX9_proof_21 rfl (lv_at hl 0 rfl) ?_
    refine lv_if_ge (tgt := 27) hx hb dX9_proof_22 (by decide) (fun c102 => ?_) (fun c102 => ?_)
    · have kc102 := c_le c102
      refine lv_aload_n hx hb dX9_proof_27 rfl (lv_at hl 1 rfl) ?_
      refine lv_iload_n hx hb dX9_proof_28 rfl (lv_at hl 0 rfl) ?_
      obtain ⟨e118, h103, h104, h105, h106, h107, h108, h109, h110, h111, h112, h113, h114, h115, h116, h117⟩ := (show okX9 ad m_taped m_size m_faultKind m_faultPlace m_at m_end m_token m_number m_name m_bank m_rb m_codes m_within m_piled m_unitsInRule x96 x97 m_thoughtClaim m_thoughtNeed m_thoughtAll m_acts m_undone 0 m_firstMove m_seens m_time m_waysNow m_fitting 148 (f 148) from hT.1 148 (by decide))
      refine tVI (As := [.int x100]) (rest := []) (i := 148) ⟨hx, hb, hml, hown, hts⟩ hK hE hP hD hS hA hAB (s_X9_standWith_0 l B0 adK adV D cy ad fr0 c_text m_taped m_size m_faultKind m_faultPlace m_at m_end m_token m_number m_name c_points c_strands c_units c_told c_ruleFrom c_ruleTo c_code c_eWhat c_eSign m_bank m_rb m_codes m_within m_piled m_unitsInRule x96 x97 m_thoughtClaim m_thoughtNeed m_thoughtAll y98 m_acts m_undone (0 : Int32) m_firstMove m_seens m_time m_waysNow m_fitting f hT x100 (by omega) hCV _) (cwV 1 hts gX9_proof_X9_standWith rfl rfl rfl (by decide +kernel) ⟨Nat.le_of_ble_eq_true rfl, Nat.le_of_ble_eq_true rfl⟩) (by decide) 9 e118 rfl rfl hl.1 rfl (Nat.le_of_ble_eq_true rfl) dX9_proof_29 ⟨Nat.le_of_ble_eq_true rfl, Nat.le_of_ble_eq_true rfl⟩ (fun r f H locs hw hP hD hS => ?_)
      obtain ⟨hrs, x119, x120, y121, hT, h122⟩ := hw
      obtain ⟨x123, rfl⟩ : ∃ q, q = r := ⟨_, rfl⟩
      have h124 := hrs
      refine lv_istore_n (lv' := [(3, .int x123), (2, .int x100), (0, .ref (ad 148)), (1, .int p1)]) hx hb dX9_proof_32 rfl hl (by decide) rfl (fun ls hl => ?_)
      refine lv_iconst (v := 0) hx hb dX9_proof_33 (by decide) ?_
      have hcr : 0 ≤ cntR y121 (0 : Int32).toInt 0 := by rw [tl_0]; exact cntR_0 _
      refine lv_istore (lv' := [(4, .int 0), (3, .int x123), (2, .int x100), (0, .ref (ad 148)), (1, .int p1)]) hx hb dX9_proof_34 hl (by decide) rfl (fun ls hl => ?_)
      obtain ⟨e140, h125, h126, h127, h128, h129, h130, h131, h132, h133, h134, h135, h136, h137, h138, h139⟩ := (show okX9 ad m_taped m_size m_faultKind m_faultPlace m_at m_end m_token m_number m_name m_bank m_rb m_codes m_within m_piled m_unitsInRule x119 x120 m_thoughtClaim m_thoughtNeed m_thoughtAll m_acts m_undone 0 m_firstMove m_seens m_time m_waysNow m_fitting 148 (f 148) from hT.1 148 (by decide))
      exact j36 (Int.toNat (12 - (0 : Int32).toInt)) f H locs ls (0 : Int32) x123 x100 x119 x120 y121 (0 : Int32) (by omega) (by omega) (by omega) (by omega) (by omega) (by omega) (by omega) hT hP hD hS (lv_sub hl [0, 1, 2, 3, 4] rfl)
    · have kc102 := c_nle c102
      refine lv_iconst (v := (-1)) hx hb dX9_proof_25 (by decide) ?_
      have ttl_m1 := tl_m1
      exact tI hx hb hr hlk rfl hP hS ⟨(by omega), ⟨x96, x97, y98, (0 : Int32), hT⟩⟩ dX9_proof_26
  · refine lv_if_ne (tgt := 15) hx hb dX9_proof_10 (by decide) (fun c => absurd (by decide) c) (fun _ => ?_)
    refine lv_iconst (v := (-1)) hx hb dX9_proof_13 (by decide) ?_
    have ttl_m1 := tl_m1
    exact tI hx hb hr hlk rfl hP hS ⟨(by omega), ⟨m_askStrand, m_askTied, c_roundOf, (0 : Int32), hT⟩⟩ dX9_proof_14
set_option maxHeartbeats 4000000 in
set_option maxRecDepth 100000 in
theorem s_X9_isRest_0 (l : Launch) (B0 : Nat) (adK adV : Nat → Nat) (D : va_G) (cy : Nat → ClassId) (ad : Nat → Nat) (fr0 : Nat → va_E) (c_text : Nat → Int32) (m_taped : Int32) (m_size : Int32) (m_faultKind : Int32) (m_faultPlace : Int32) (m_at : Int32) (m_end : Int32) (m_token : Int32) (m_number : Int32) (m_name : Int64) (c_points : Nat → Int32) (c_strands : Nat → Int32) (c_units : Nat → Int32) (c_told : Nat → Int32) (c_ruleFrom : Nat → Int32) (c_ruleTo : Nat → Int32) (c_code : Nat → Int32) (c_eWhat : Nat → Int32) (c_eSign : Nat → Int32) (m_bank : Int32) (m_rb : Int32) (m_codes : Int32) (m_within : Int32) (m_piled : Int32) (m_unitsInRule : Int32) (m_askStrand : Int32) (m_askTied : Int32) (m_thoughtClaim : Int32) (m_thoughtNeed : Int32) (m_thoughtAll : Int32) (c_roundOf : Nat → Int32) (m_acts : Int32) (m_undone : Int32) (m_laid : Int32) (m_firstMove : Int32) (m_seens : Int32) (m_time : Int32) (m_waysNow : Int32) (m_fitting : Int32) (f : Nat → va_E) (hT : TYm ad cy fr0 c_text m_taped m_size m_faultKind m_faultPlace m_at m_end m_token m_number m_name c_points c_strands c_units c_told c_ruleFrom c_ruleTo c_code c_eWhat c_eSign m_bank m_rb m_codes m_within m_piled m_unitsInRule m_askStrand m_askTied m_thoughtClaim m_thoughtNeed m_thoughtAll c_roundOf m_acts m_undone m_laid m_firstMove m_seens m_time m_waysNow m_fitting f) (p1 : Int32) (hp1 : 0 ≤ p1.toInt ∧ p1.toInt ≤ 143) (sz : Nat) : TtI l yX9_isRest wsX9_isRest 1 21 [.ref (ad 148), .int p1] B0 adK adV D cy ad f sz (fun (r : Int32) (g : Nat → va_E) => ((r = 1) ∨ (r = 0)) ∧ (f = g)) := by
  refine TtI.of (cc := cX9_isRest) (maxL := 5) (ty := .boolean) (own := RX9) (by decide) rfl (Nat.le_of_ble_eq_true rfl) rfl ?_
  intro p e s m below meth c A ls hx hb hr hml hts hown hlk hK hE hP hD hS hA hAB hl
  have hl : lv_has ls 5 [(0, .ref (ad 148)), (1, .int p1)] := hl
  refine st0 (fun H locs hP hS => ?_) hP hS
  have j41 : ∀ (N : Nat) (H : Heap) (locs : List Loc) (ls : Array Slot) (v41_l4 : Int32) (v41_l3 : Int32) (v41_l2 : Int32), (13 - v41_l4.toInt ≤ (N : Int)) → (0 ≤ v41_l4.toInt ∧ v41_l4.toInt ≤ 12) → (0 ≤ v41_l3.toInt ∧ v41_l3.toInt ≤ 11) → (0 ≤ v41_l2.toInt ∧ v41_l2.toInt ≤ 11) → (0 ≤ p1.toInt ∧ p1.toInt ≤ 143) → (va_P D vwCl (wl ad f) H) → (va_D A (wl ad f)) → (va_S A s.heap H locs) → (lv_has ls 5 [(4, .int v41_l4), (3, .int v41_l3), (2, .int v41_l2), (0, .ref (ad 148)), (1, .int p1)]) → W p l e (rmO 1 21 0 0) s m ([.ref (ad 148), .int p1] : List Value).toArray below meth c H locs 0 0 (MQ below (va_Qi (fun (r : Int32) (g : Nat → va_E) => ((r = 1) ∨ (r = 0)) ∧ (f = g)) (fun g t => PstT D ad g t) A) ([.ref (ad 148), .int p1] : List Value).toArray s 0 0 A) (F0 m 41 ls []) := by
    intro N
    induction N with
    | zero => intro H locs ls v41_l4 v41_l3 v41_l2 hN hv41_l4 hv41_l3 hv41_l2 hv41_l1 hP hD hS hl; exact absurd hN (by omega)
    | succ N ih41 =>
      intro H locs ls v41_l4 v41_l3 v41_l2 hN hv41_l4 hv41_l3 hv41_l2 hv41_l1 hP hD hS hl
      have j116 : ∀ (H : Heap) (locs : List Loc) (ls : Array Slot), (0 ≤ v41_l4.toInt ∧ v41_l4.toInt ≤ 11) → (0 ≤ v41_l3.toInt ∧ v41_l3.toInt ≤ 11) → (0 ≤ v41_l2.toInt ∧ v41_l2.toInt ≤ 11) → (0 ≤ p1.toInt ∧ p1.toInt ≤ 143) → (va_P D vwCl (wl ad f) H) → (va_D A (wl ad f)) → (va_S A s.heap H locs) → (lv_has ls 5 [(4, .int v41_l4), (3, .int v41_l3), (2, .int v41_l2), (0, .ref (ad 148)), (1, .int p1)]) → W p l e (rmO 1 21 0 0) s m ([.ref (ad 148), .int p1] : List Value).toArray below meth c H locs 0 0 (MQ below (va_Qi (fun (r : Int32) (g : Nat → va_E) => ((r = 1) ∨ (r = 0)) ∧ (f = g)) (fun g t => PstT D ad g t) A) ([.ref (ad 148), .int p1] : List Value).toArray s 0 0 A) (F0 m 116 ls []) := by
        intro H locs ls hv116_l4 hv116_l3 hv116_l2 hv116_l1 hP hD hS hl
        obtain ⟨x1, ex1⟩ : ∃ q : Int32, q = v41_l4 + Int32.ofInt (1) := ⟨_, rfl⟩
        refine lv_iinc (v := x1) (lv' := [(4, .int x1), (3, .int v41_l3), (2, .int v41_l2), (0, .ref (ad 148)), (1, .int p1)]) hx hb dX9_isRest_116 hl (k := 0) rfl ex1.symm (by decide) rfl (fun ls hl => ?_)
        have hx1 := r_inc ex1 (by decide) (by omega) (by omega)
        refine lv_goto (tgt := 41) hx hb dX9_isRest_119 (by decide) ?_
        exact ih41 H locs ls x1 v41_l3 v41_l2 (by omega) (by omega) (by omega) (by omega) (by omega) hP hD hS (lv_sub hl [0, 1, 2, 3, 4] rfl)
      refine lv_iload hx hb dX9_isRest_41 (lv_at hl 0 rfl) ?_
      refine lv_aload_n hx hb dX9_isRest_43 rfl (lv_at hl 3 rfl) ?_
      obtain ⟨e17, h2, h3, h4, h5, h6, h7, h8, h9, h10, h11, h12, h13, h14, h15, h16⟩ := (show okX9 ad m_taped m_size m_faultKind m_faultPlace m_at m_end m_token m_number m_name m_bank m_rb m_codes m_within m_piled m_unitsInRule m_askStrand m_askTied m_thoughtClaim m_thoughtNeed m_thoughtAll m_acts m_undone m_laid m_firstMove m_seens m_time m_waysNow m_fitting 148 (f 148) from hT.1 148 (by decide))
      refine tVI (As := []) (rest := [.int v41_l4]) (i := 148) ⟨hx, hb, hml, hown, hts⟩ hK hE hP hD hS hA hAB (s_X9_threads_0 l B0 adK adV D cy ad fr0 c_text m_taped m_size m_faultKind m_faultPlace m_at m_end m_token m_number m_name c_points c_strands c_units c_told c_ruleFrom c_ruleTo c_code c_eWhat c_eSign m_bank m_rb m_codes m_within m_piled m_unitsInRule m_askStrand m_askTied m_thoughtClaim m_thoughtNeed m_thoughtAll c_roundOf m_acts m_undone m_laid m_firstMove m_seens m_time m_waysNow m_fitting f hT _) (cwV 0 hts gX9_isRest_X9_threads rfl rfl rfl (by decide +kernel) ⟨Nat.le_of_ble_eq_true rfl, Nat.le_of_ble_eq_true rfl⟩) (by decide) 9 e17 rfl rfl hl.1 rfl (Nat.le_of_ble_eq_true rfl) dX9_isRest_44 ⟨Nat.le_of_ble_eq_true rfl, Nat.le_of_ble_eq_true rfl⟩ (fun r g H locs hw hP hD hS => ?_)
      obtain ⟨hrs, rfl⟩ := hw
      obtain ⟨x18, rfl⟩ : ∃ q, q = r := ⟨_, rfl⟩
      have h19 := hrs
      refine lv_icmp_ge (tgt := 122) hx hb dX9_isRest_47 (by decide) (fun c20 => ?_) (fun c20 => ?_)
      · have kc20 := c_le c20
        refine lv_iconst (v := 1) hx hb dX9_isRest_122 (by decide) ?_
        have ttl_1 := tl_1
        exact tI hx hb hr hlk rfl hP hS ⟨(Or.inl rfl), rfl⟩ dX9_isRest_123
      · have kc20 := c_nle c20
        refine lv_aload_n hx hb dX9_isRest_50 rfl (lv_at hl 3 rfl) ?_
        refine va_get (D := D) (cl := vwCl) (ci := 9) (v := .ref (ad 169)) (C := RX9) (T := TX9) (N := 64) hx hb hts in_X9_isRest_X9 hown hK hP 148 (wl_at (by decide) e17) rfl 37 (by decide) (hts (.fieldLink RX9 76 "EightReasonsModel" "all" "[I") (List.mem_of_getElem? (i := 1) rfl)) (fun _ h9 => h9) rfl dX9_isRest_51 ?_
        refine lv_iconst (v := 1) hx hb dX9_isRest_54 (by decide) ?_
        obtain ⟨g23, e21, h22⟩ := (show okIr cy 16 (0) (4095) 16 1 (f 169) from hT.1 169 (by decide))
        have ttl_1 := tl_1
        refine va_iald hx hb hK hP 169 0 (wl_at (by decide) e21) rfl (vin (by decide)) dX9_isRest_55 ?_
        refine lv_topi (fun x24 ex24 => ?_)
        have hx24 := r_el (h22 _ (by decide)) ex24
        refine lv_iload hx hb dX9_isRest_56 (lv_at hl 0 rfl) ?_
        refine tSI (As := [.int x24, .int v41_l4]) (rest := []) ⟨hx, hb, hml, hown, hts⟩ hK hE hP hD hS hA hAB (s_X9_bit_0 l B0 adK adV D cy ad f x24 v41_l4 (by omega) _) (va_cwS 2 hts gX9_isRest_X9_bit rfl rfl rfl (by decide +kernel) ⟨Nat.le_of_ble_eq_true rfl, Nat.le_of_ble_eq_true rfl⟩) rfl hl.1 rfl (Nat.le_of_ble_eq_true rfl) dX9_isRest_58 ⟨Nat.le_of_ble_eq_true rfl, Nat.le_of_ble_eq_true rfl⟩ (fun r g H locs hw hP hD hS => ?_)
        obtain ⟨hrs, rfl⟩ := hw
        obtain ⟨x25, rfl⟩ : ∃ q, q = r := ⟨_, rfl⟩
        rcases hrs with ⟨rfl, h26⟩ | ⟨rfl, h27⟩
        · refine lv_if_eq (tgt := 116) hx hb dX9_isRest_61 (by decide) (fun c => absurd c (by decide)) (fun _ => ?_)
          refine lv_aload_n hx hb dX9_isRest_64 rfl (lv_at hl 3 rfl) ?_
          refine va_get (D := D) (cl := vwCl) (ci := 9) (v := .ref (ad 175)) (C := RX9) (T := TX9) (N := 64) hx hb hts in_X9_isRest_X9 hown hK hP 148 (wl_at (by decide) e17) rfl 50 (by decide) (hts (.fieldLink RX9 100 "EightReasonsModel" "gains" "[I") (List.mem_of_getElem? (i := 2) rfl)) (fun _ h9 => h9) rfl dX9_isRest_65 ?_
          refine lv_bipush (v := 12) hx hb dX9_isRest_68 (by decide) ?_
          refine lv_iload hx hb dX9_isRest_70 (lv_at hl 0 rfl) ?_
          refine lv_imul hx hb dX9_isRest_72 ?_
          refine lv_topi (fun x28 ex28 => ?_)
          have hx28 := r_mull ex28 tl_12 (by omega) (by omega)
          refine lv_iload_n hx hb dX9_isRest_73 rfl (lv_at hl 1 rfl) ?_
          refine lv_iadd hx hb dX9_isRest_74 ?_
          refine lv_topi (fun x29 ex29 => ?_)
          have hx29 := r_add ex29 (by omega) (by omega)
          obtain ⟨g31, e30⟩ := (show okI cy 288 (f 175) from hT.1 175 (by decide))
          refine va_iald hx hb hK hP 175 0 (wl_at (by decide) e30) rfl (vp_in_iff.mpr ⟨by omega, by omega⟩) dX9_isRest_75 ?_
          refine lv_topi (fun x32 ex32 => ?_)
          refine lv_aload_n hx hb dX9_isRest_76 rfl (lv_at hl 3 rfl) ?_
          refine va_get (D := D) (cl := vwCl) (ci := 9) (v := .ref (ad 175)) (C := RX9) (T := TX9) (N := 64) hx hb hts in_X9_isRest_X9 hown hK hP 148 (wl_at (by decide) e17) rfl 50 (by decide) (hts (.fieldLink RX9 100 "EightReasonsModel" "gains" "[I") (List.mem_of_getElem? (i := 2) rfl)) (fun _ h9 => h9) rfl dX9_isRest_77 ?_
          refine lv_iload_n hx hb dX9_isRest_80 rfl (lv_at hl 4 rfl) ?_
          refine va_iald hx hb hK hP 175 0 (wl_at (by decide) e30) rfl (vp_in_iff.mpr ⟨by omega, by omega⟩) dX9_isRest_81 ?_
          refine lv_topi (fun x33 ex33 => ?_)
          refine lv_icmp_gt (tgt := 114) hx hb dX9_isRest_82 (by decide) (fun c34 => ?_) (fun c34 => ?_)
          · have kc34 := c_lt c34
            refine lv_iconst (v := 0) hx hb dX9_isRest_114 (by decide) ?_
            have ttl_0 := tl_0
            exact tI hx hb hr hlk rfl hP hS ⟨(Or.inr rfl), rfl⟩ dX9_isRest_115
          · have kc34 := c_nlt c34
            refine lv_aload_n hx hb dX9_isRest_85 rfl (lv_at hl 3 rfl) ?_
            refine va_get (D := D) (cl := vwCl) (ci := 9) (v := .ref (ad 175)) (C := RX9) (T := TX9) (N := 64) hx hb hts in_X9_isRest_X9 hown hK hP 148 (wl_at (by decide) e17) rfl 50 (by decide) (hts (.fieldLink RX9 100 "EightReasonsModel" "gains" "[I") (List.mem_of_getElem? (i := 2) rfl)) (fun _ h9 => h9) rfl dX9_isRest_86 ?_
            refine lv_sipush (v := 144) hx hb dX9_isRest_89 (by decide) ?_
            refine lv_bipush (v := 12) hx hb dX9_isRest_92 (by decide) ?_
            refine lv_iload_n hx hb dX9_isRest_94 rfl (lv_at hl 2 rfl) ?_
            refine lv_imul hx hb dX9_isRest_95 ?_
            refine lv_topi (fun x35 ex35 => ?_)
            have hx35 := r_mull ex35 tl_12 (by omega) (by omega)
            have ttl_144 := tl_144
            refine lv_iadd hx hb dX9_isRest_96 ?_
            refine lv_topi (fun x36 ex36 => ?_)
            have hx36 := r_add ex36 (by omega) (by omega)
            refine lv_iload hx hb dX9_isRest_97 (lv_at hl 0 rfl) ?_
            refine lv_iadd hx hb dX9_isRest_99 ?_
            refine lv_topi (fun x37 ex37 => ?_)
            have hx37 := r_add ex37 (by omega) (by omega)
            refine va_iald hx hb hK hP 175 0 (wl_at (by decide) e30) rfl (vp_in_iff.mpr ⟨by omega, by omega⟩) dX9_isRest_100 ?_
            refine lv_topi (fun x38 ex38 => ?_)
            refine lv_aload_n hx hb dX9_isRest_101 rfl (lv_at hl 3 rfl) ?_
            refine va_get (D := D) (cl := vwCl) (ci := 9) (v := .ref (ad 175)) (C := RX9) (T := TX9) (N := 64) hx hb hts in_X9_isRest_X9 hown hK hP 148 (wl_at (by decide) e17) rfl 50 (by decide) (hts (.fieldLink RX9 100 "EightReasonsModel" "gains" "[I") (List.mem_of_getElem? (i := 2) rfl)) (fun _ h9 => h9) rfl dX9_isRest_102 ?_
            refine lv_sipush (v := 144) hx hb dX9_isRest_105 (by decide) ?_
            refine lv_iload_n hx hb dX9_isRest_108 rfl (lv_at hl 4 rfl) ?_
            refine lv_iadd hx hb dX9_isRest_109 ?_
            refine lv_topi (fun x39 ex39 => ?_)
            have hx39 := r_add ex39 (by omega) (by omega)
            refine va_iald hx hb hK hP 175 0 (wl_at (by decide) e30) rfl (vp_in_iff.mpr ⟨by omega, by omega⟩) dX9_isRest_110 ?_
            refine lv_topi (fun x40 ex40 => ?_)
            refine lv_icmp_le (tgt := 116) hx hb dX9_isRest_111 (by decide) (fun c41 => ?_) (fun c41 => ?_)
            · have kc41 := c_le c41
              exact j116 H locs ls (by omega) (by omega) (by omega) (by omega) hP hD hS (lv_sub hl [0, 1, 2, 3, 4] rfl)
            · have kc41 := c_nle c41
              refine lv_iconst (v := 0) hx hb dX9_isRest_114 (by decide) ?_
              have ttl_0 := tl_0
              exact tI hx hb hr hlk rfl hP hS ⟨(Or.inr rfl), rfl⟩ dX9_isRest_115
        · refine lv_if_eq (tgt := 116) hx hb dX9_isRest_61 (by decide) (fun _ => ?_) (fun c => absurd (by decide) c)
          exact j116 H locs ls (by omega) (by omega) (by omega) (by omega) hP hD hS (lv_sub hl [0, 1, 2, 3, 4] rfl)
  refine lv_iload_n hx hb dX9_isRest_0 rfl (lv_at hl 1 rfl) ?_
  refine lv_bipush (v := 12) hx hb dX9_isRest_1 (by decide) ?_
  refine lv_idiv hx hb dX9_isRest_3 (by decide) ?_
  refine lv_topi (fun x42 ex42 => ?_)
  have hx42 := r_div ex42 tl_12 (by omega) (by decide)
  refine lv_istore_n (lv' := [(2, .int x42), (0, .ref (ad 148)), (1, .int p1)]) hx hb dX9_isRest_4 rfl hl (by decide) rfl (fun ls hl => ?_)
  refine lv_iload_n hx hb dX9_isRest_5 rfl (lv_at hl 2 rfl) ?_
  refine lv_bipush (v := 12) hx hb dX9_isRest_6 (by decide) ?_
  refine lv_irem hx hb dX9_isRest_8 (by decide) ?_
  refine lv_topi (fun x43 ex43 => ?_)
  have hx43 := r_rem ex43 tl_12 (by omega) (by decide)
  refine lv_istore_n (lv' := [(3, .int x43), (2, .int x42), (0, .ref (ad 148)), (1, .int p1)]) hx hb dX9_isRest_9 rfl hl (by decide) rfl (fun ls hl => ?_)
  refine lv_aload_n hx hb dX9_isRest_10 rfl (lv_at hl 2 rfl) ?_
  obtain ⟨e59, h44, h45, h46, h47, h48, h49, h50, h51, h52, h53, h54, h55, h56, h57, h58⟩ := (show okX9 ad m_taped m_size m_faultKind m_faultPlace m_at m_end m_token m_number m_name m_bank m_rb m_codes m_within m_piled m_unitsInRule m_askStrand m_askTied m_thoughtClaim m_thoughtNeed m_thoughtAll m_acts m_undone m_laid m_firstMove m_seens m_time m_waysNow m_fitting 148 (f 148) from hT.1 148 (by decide))
  refine va_get (D := D) (cl := vwCl) (ci := 9) (v := .ref (ad 169)) (C := RX9) (T := TX9) (N := 64) hx hb hts in_X9_isRest_X9 hown hK hP 148 (wl_at (by decide) e59) rfl 37 (by decide) (hts (.fieldLink RX9 76 "EightReasonsModel" "all" "[I") (List.mem_of_getElem? (i := 1) rfl)) (fun _ h9 => h9) rfl dX9_isRest_11 ?_
  refine lv_iconst (v := 1) hx hb dX9_isRest_14 (by decide) ?_
  obtain ⟨g62, e60, h61⟩ := (show okIr cy 16 (0) (4095) 16 1 (f 169) from hT.1 169 (by decide))
  have ttl_1 := tl_1
  refine va_iald hx hb hK hP 169 0 (wl_at (by decide) e60) rfl (vin (by decide)) dX9_isRest_15 ?_
  refine lv_topi (fun x63 ex63 => ?_)
  have hx63 := r_el (h61 _ (by decide)) ex63
  refine lv_iload_n hx hb dX9_isRest_16 rfl (lv_at hl 1 rfl) ?_
  refine tSI (As := [.int x63, .int x42]) (rest := []) ⟨hx, hb, hml, hown, hts⟩ hK hE hP hD hS hA hAB (s_X9_bit_0 l B0 adK adV D cy ad f x63 x42 (by omega) _) (va_cwS 2 hts gX9_isRest_X9_bit rfl rfl rfl (by decide +kernel) ⟨Nat.le_of_ble_eq_true rfl, Nat.le_of_ble_eq_true rfl⟩) rfl hl.1 rfl (Nat.le_of_ble_eq_true rfl) dX9_isRest_17 ⟨Nat.le_of_ble_eq_true rfl, Nat.le_of_ble_eq_true rfl⟩ (fun r g H locs hw hP hD hS => ?_)
  obtain ⟨hrs, rfl⟩ := hw
  obtain ⟨x64, rfl⟩ : ∃ q, q = r := ⟨_, rfl⟩
  rcases hrs with ⟨rfl, h65⟩ | ⟨rfl, h66⟩
  · refine lv_if_eq (tgt := 36) hx hb dX9_isRest_20 (by decide) (fun c => absurd c (by decide)) (fun _ => ?_)
    refine lv_aload_n hx hb dX9_isRest_23 rfl (lv_at hl 2 rfl) ?_
    refine va_get (D := D) (cl := vwCl) (ci := 9) (v := .ref (ad 169)) (C := RX9) (T := TX9) (N := 64) hx hb hts in_X9_isRest_X9 hown hK hP 148 (wl_at (by decide) e59) rfl 37 (by decide) (hts (.fieldLink RX9 76 "EightReasonsModel" "all" "[I") (List.mem_of_getElem? (i := 1) rfl)) (fun _ h9 => h9) rfl dX9_isRest_24 ?_
    refine lv_iconst (v := 1) hx hb dX9_isRest_27 (by decide) ?_
    refine va_iald hx hb hK hP 169 0 (wl_at (by decide) e60) rfl (vin (by decide)) dX9_isRest_28 ?_
    refine lv_topi (fun x67 ex67 => ?_)
    have hx67 := r_el (h61 _ (by decide)) ex67
    refine lv_iload_n hx hb dX9_isRest_29 rfl (lv_at hl 0 rfl) ?_
    refine tSI (As := [.int x67, .int x43]) (rest := []) ⟨hx, hb, hml, hown, hts⟩ hK hE hP hD hS hA hAB (s_X9_bit_0 l B0 adK adV D cy ad f x67 x43 (by omega) _) (va_cwS 2 hts gX9_isRest_X9_bit rfl rfl rfl (by decide +kernel) ⟨Nat.le_of_ble_eq_true rfl, Nat.le_of_ble_eq_true rfl⟩) rfl hl.1 rfl (Nat.le_of_ble_eq_true rfl) dX9_isRest_30 ⟨Nat.le_of_ble_eq_true rfl, Nat.le_of_ble_eq_true rfl⟩ (fun r g H locs hw hP hD hS => ?_)
    obtain ⟨hrs, rfl⟩ := hw
    obtain ⟨x68, rfl⟩ : ∃ q, q = r := ⟨_, rfl⟩
    rcases hrs with ⟨rfl, h69⟩ | ⟨rfl, h70⟩
    · refine lv_if_ne (tgt := 38) hx hb dX9_isRest_33 (by decide) (fun _ => ?_) (fun c => absurd c (by decide))
      refine lv_iconst (v := 0) hx hb dX9_isRest_38 (by decide) ?_
      refine lv_istore (lv' := [(4, .int 0), (3, .int x43), (2, .int x42), (0, .ref (ad 148)), (1, .int p1)]) hx hb dX9_isRest_39 hl (by decide) rfl (fun ls hl => ?_)
      have ttl_0 := tl_0
      exact j41 (Int.toNat (13 - (0 : Int32).toInt)) H locs ls (0 : Int32) x43 x42 (by omega) (by omega) (by omega) (by omega) (by omega) hP hD hS (lv_sub hl [0, 1, 2, 3, 4] rfl)
    · refine lv_if_ne (tgt := 38) hx hb dX9_isRest_33 (by decide) (fun c => absurd (by decide) c) (fun _ => ?_)
      refine lv_iconst (v := 0) hx hb dX9_isRest_36 (by decide) ?_
      have ttl_0 := tl_0
      exact tI hx hb hr hlk rfl hP hS ⟨(Or.inr rfl), rfl⟩ dX9_isRest_37
  · refine lv_if_eq (tgt := 36) hx hb dX9_isRest_20 (by decide) (fun _ => ?_) (fun c => absurd (by decide) c)
    refine lv_iconst (v := 0) hx hb dX9_isRest_36 (by decide) ?_
    have ttl_0 := tl_0
    exact tI hx hb hr hlk rfl hP hS ⟨(Or.inr rfl), rfl⟩ dX9_isRest_37
set_option maxHeartbeats 4000000 in
set_option maxRecDepth 100000 in
theorem s_X9_layGains_0 (l : Launch) (B0 : Nat) (adK adV : Nat → Nat) (D : va_G) (cy : Nat → ClassId) (ad : Nat → Nat) (fr0 : Nat → va_E) (c_text : Nat → Int32) (m_taped : Int32) (m_size : Int32) (m_faultKind : Int32) (m_faultPlace : Int32) (m_at : Int32) (m_end : Int32) (m_token : Int32) (m_number : Int32) (m_name : Int64) (c_points : Nat → Int32) (c_strands : Nat → Int32) (c_units : Nat → Int32) (c_told : Nat → Int32) (c_ruleFrom : Nat → Int32) (c_ruleTo : Nat → Int32) (c_code : Nat → Int32) (c_eWhat : Nat → Int32) (c_eSign : Nat → Int32) (m_bank : Int32) (m_rb : Int32) (m_codes : Int32) (m_within : Int32) (m_piled : Int32) (m_unitsInRule : Int32) (m_askStrand : Int32) (m_askTied : Int32) (m_thoughtClaim : Int32) (m_thoughtNeed : Int32) (m_thoughtAll : Int32) (c_roundOf : Nat → Int32) (m_acts : Int32) (m_undone : Int32) (m_laid : Int32) (m_firstMove : Int32) (m_seens : Int32) (m_time : Int32) (m_waysNow : Int32) (m_fitting : Int32) (f : Nat → va_E) (hT : TYm ad cy fr0 c_text m_taped m_size m_faultKind m_faultPlace m_at m_end m_token m_number m_name c_points c_strands c_units c_told c_ruleFrom c_ruleTo c_code c_eWhat c_eSign m_bank m_rb m_codes m_within m_piled m_unitsInRule m_askStrand m_askTied m_thoughtClaim m_thoughtNeed m_thoughtAll c_roundOf m_acts m_undone m_laid m_firstMove m_seens m_time m_waysNow m_fitting f) (p1 : Int32) (hp1 : 0 ≤ p1.toInt ∧ p1.toInt ≤ 9) (p2 : Int32) (hp2 : 0 ≤ p2.toInt ∧ p2.toInt ≤ 9) (hCV : CVp c_told c_ruleFrom c_ruleTo c_code m_bank) (sz : Nat) : TtV l yX9_layGains wsX9_layGains 7 159 [.ref (ad 148), .int p1, .int p2] B0 adK adV D cy ad f sz (fun (g : Nat → va_E) => True ∧ (∃ (m_askStrand' : Int32) (m_askTied' : Int32) (c_roundOf' : Nat → Int32), TYm ad cy fr0 c_text m_taped m_size m_faultKind m_faultPlace m_at m_end m_token m_number m_name c_points c_strands c_units c_told c_ruleFrom c_ruleTo c_code c_eWhat c_eSign m_bank m_rb m_codes m_within m_piled m_unitsInRule m_askStrand' m_askTied' m_thoughtClaim m_thoughtNeed m_thoughtAll c_roundOf' m_acts m_undone m_laid m_firstMove m_seens m_time m_waysNow m_fitting g)) := by
  refine TtV.of (cc := cX9_layGains) (maxL := 7) (own := RX9) (by decide) rfl (Nat.le_of_ble_eq_true rfl) rfl ?_
  intro p e s m below meth c A ls hx hb hr hml hts hown hlk hK hE hP hD hS hA hAB hl
  have hl : lv_has ls 7 [(0, .ref (ad 148)), (1, .int p1), (2, .int p2)] := hl
  refine st0 (fun H locs hP hS => ?_) hP hS
  have j2 : ∀ (N : Nat) (f : Nat → va_E) (H : Heap) (locs : List Loc) (ls : Array Slot) (v2_l3 : Int32) (v2_p_m_askStrand : Int32) (v2_p_m_askTied : Int32) (v2_p_c_roundOf : Nat → Int32), (145 - v2_l3.toInt ≤ (N : Int)) → (0 ≤ v2_l3.toInt ∧ v2_l3.toInt ≤ 144) → (0 ≤ p1.toInt ∧ p1.toInt ≤ 9) → (0 ≤ p2.toInt ∧ p2.toInt ≤ 9) → (TYm ad cy fr0 c_text m_taped m_size m_faultKind m_faultPlace m_at m_end m_token m_number m_name c_points c_strands c_units c_told c_ruleFrom c_ruleTo c_code c_eWhat c_eSign m_bank m_rb m_codes m_within m_piled m_unitsInRule v2_p_m_askStrand v2_p_m_askTied m_thoughtClaim m_thoughtNeed m_thoughtAll v2_p_c_roundOf m_acts m_undone m_laid m_firstMove m_seens m_time m_waysNow m_fitting f) → (va_P D vwCl (wl ad f) H) → (va_D A (wl ad f)) → (va_S A s.heap H locs) → (lv_has ls 7 [(3, .int v2_l3), (0, .ref (ad 148)), (1, .int p1), (2, .int p2)]) → W p l e (rmO 7 159 0 0) s m ([.ref (ad 148), .int p1, .int p2] : List Value).toArray below meth c H locs 0 0 (MQ below (va_Qv (fun (g : Nat → va_E) => True ∧ (∃ (m_askStrand' : Int32) (m_askTied' : Int32) (c_roundOf' : Nat → Int32), TYm ad cy fr0 c_text m_taped m_size m_faultKind m_faultPlace m_at m_end m_token m_number m_name c_points c_strands c_units c_told c_ruleFrom c_ruleTo c_code c_eWhat c_eSign m_bank m_rb m_codes m_within m_piled m_unitsInRule m_askStrand' m_askTied' m_thoughtClaim m_thoughtNeed m_thoughtAll c_roundOf' m_acts m_undone m_laid m_firstMove m_seens m_time m_waysNow m_fitting g)) (fun g t => PstT D ad g t) A) ([.ref (ad 148), .int p1, .int p2] : List Value).toArray s 0 0 A) (F0 m 2 ls []) := by
    intro N
    induction N with
    | zero => intro f H locs ls v2_l3 v2_p_m_askStrand v2_p_m_askTied v2_p_c_roundOf hN hv2_l3 hv2_l1 hv2_l2 hT hP hD hS hl; exact absurd hN (by omega)
    | succ N ih2 =>
      intro f H locs ls v2_l3 v2_p_m_askStrand v2_p_m_askTied v2_p_c_roundOf hN hv2_l3 hv2_l1 hv2_l2 hT hP hD hS hl
      have j152 : ∀ (f : Nat → va_E) (H : Heap) (locs : List Loc) (ls : Array Slot) (v152_l5 : Int32) (v152_l4 : Int32) (v152_p_m_askStrand : Int32) (v152_p_m_askTied : Int32) (v152_p_c_roundOf : Nat → Int32), (0 ≤ v152_l5.toInt ∧ v152_l5.toInt ≤ 11) → (0 ≤ v152_l4.toInt ∧ v152_l4.toInt ≤ 11) → (0 ≤ v2_l3.toInt ∧ v2_l3.toInt ≤ 143) → (0 ≤ p1.toInt ∧ p1.toInt ≤ 9) → (0 ≤ p2.toInt ∧ p2.toInt ≤ 9) → (TYm ad cy fr0 c_text m_taped m_size m_faultKind m_faultPlace m_at m_end m_token m_number m_name c_points c_strands c_units c_told c_ruleFrom c_ruleTo c_code c_eWhat c_eSign m_bank m_rb m_codes m_within m_piled m_unitsInRule v152_p_m_askStrand v152_p_m_askTied m_thoughtClaim m_thoughtNeed m_thoughtAll v152_p_c_roundOf m_acts m_undone m_laid m_firstMove m_seens m_time m_waysNow m_fitting f) → (va_P D vwCl (wl ad f) H) → (va_D A (wl ad f)) → (va_S A s.heap H locs) → (lv_has ls 7 [(5, .int v152_l5), (4, .int v152_l4), (3, .int v2_l3), (0, .ref (ad 148)), (1, .int p1), (2, .int p2)]) → W p l e (rmO 7 159 0 0) s m ([.ref (ad 148), .int p1, .int p2] : List Value).toArray below meth c H locs 0 0 (MQ below (va_Qv (fun (g : Nat → va_E) => True ∧ (∃ (m_askStrand' : Int32) (m_askTied' : Int32) (c_roundOf' : Nat → Int32), TYm ad cy fr0 c_text m_taped m_size m_faultKind m_faultPlace m_at m_end m_token m_number m_name c_points c_strands c_units c_told c_ruleFrom c_ruleTo c_code c_eWhat c_eSign m_bank m_rb m_codes m_within m_piled m_unitsInRule m_askStrand' m_askTied' m_thoughtClaim m_thoughtNeed m_thoughtAll c_roundOf' m_acts m_undone m_laid m_firstMove m_seens m_time m_waysNow m_fitting g)) (fun g t => PstT D ad g t) A) ([.ref (ad 148), .int p1, .int p2] : List Value).toArray s 0 0 A) (F0 m 152 ls []) := by
        intro f H locs ls v152_l5 v152_l4 v152_p_m_askStrand v152_p_m_askTied v152_p_c_roundOf hv152_l5 hv152_l4 hv152_l3 hv152_l1 hv152_l2 hT hP hD hS hl
        obtain ⟨x1, ex1⟩ : ∃ q : Int32, q = v2_l3 + Int32.ofInt (1) := ⟨_, rfl⟩
        refine lv_iinc (v := x1) (lv' := [(3, .int x1), (5, .int v152_l5), (4, .int v152_l4), (0, .ref (ad 148)), (1, .int p1), (2, .int p2)]) hx hb dX9_layGains_152 hl (k := 2) rfl ex1.symm (by decide) rfl (fun ls hl => ?_)
        have hx1 := r_inc ex1 (by decide) (by omega) (by omega)
        refine lv_goto (tgt := 2) hx hb dX9_layGains_155 (by decide) ?_
        exact ih2 f H locs ls x1 v152_p_m_askStrand v152_p_m_askTied v152_p_c_roundOf (by omega) (by omega) (by omega) (by omega) hT hP hD hS (lv_sub hl [0, 3, 4, 5] rfl)
      have j150 : ∀ (f : Nat → va_E) (H : Heap) (locs : List Loc) (ls : Array Slot) (v150_l6 : Int32) (v150_l5 : Int32) (v150_l4 : Int32) (v150_s1 : Int32) (v150_s2 : Int32) (v150_s3 : Int32) (v150_p_m_askStrand : Int32) (v150_p_m_askTied : Int32) (v150_p_c_roundOf : Nat → Int32), (0 ≤ v150_l6.toInt ∧ v150_l6.toInt ≤ 4095) → (0 ≤ v150_l5.toInt ∧ v150_l5.toInt ≤ 11) → (0 ≤ v150_l4.toInt ∧ v150_l4.toInt ≤ 11) → (0 ≤ v2_l3.toInt ∧ v2_l3.toInt ≤ 143) → (0 ≤ p1.toInt ∧ p1.toInt ≤ 9) → (0 ≤ p2.toInt ∧ p2.toInt ≤ 9) → (144 ≤ v150_s1.toInt ∧ v150_s1.toInt ≤ 287) → (0 ≤ v150_s2.toInt ∧ v150_s2.toInt ≤ 2) → (0 ≤ v150_s3.toInt ∧ v150_s3.toInt ≤ 1) → (0 ≤ v150_p_m_askTied.toInt ∧ v150_p_m_askTied.toInt ≤ 4095) → (TYm ad cy fr0 c_text m_taped m_size m_faultKind m_faultPlace m_at m_end m_token m_number m_name c_points c_strands c_units c_told c_ruleFrom c_ruleTo c_code c_eWhat c_eSign m_bank m_rb m_codes m_within m_piled m_unitsInRule v150_p_m_askStrand v150_p_m_askTied m_thoughtClaim m_thoughtNeed m_thoughtAll v150_p_c_roundOf m_acts m_undone m_laid m_firstMove m_seens m_time m_waysNow m_fitting f) → (va_P D vwCl (wl ad f) H) → (va_D A (wl ad f)) → (va_S A s.heap H locs) → (lv_has ls 7 [(6, .int v150_l6), (5, .int v150_l5), (4, .int v150_l4), (3, .int v2_l3), (0, .ref (ad 148)), (1, .int p1), (2, .int p2)]) → W p l e (rmO 7 159 0 0) s m ([.ref (ad 148), .int p1, .int p2] : List Value).toArray below meth c H locs 0 0 (MQ below (va_Qv (fun (g : Nat → va_E) => True ∧ (∃ (m_askStrand' : Int32) (m_askTied' : Int32) (c_roundOf' : Nat → Int32), TYm ad cy fr0 c_text m_taped m_size m_faultKind m_faultPlace m_at m_end m_token m_number m_name c_points c_strands c_units c_told c_ruleFrom c_ruleTo c_code c_eWhat c_eSign m_bank m_rb m_codes m_within m_piled m_unitsInRule m_askStrand' m_askTied' m_thoughtClaim m_thoughtNeed m_thoughtAll c_roundOf' m_acts m_undone m_laid m_firstMove m_seens m_time m_waysNow m_fitting g)) (fun g t => PstT D ad g t) A) ([.ref (ad 148), .int p1, .int p2] : List Value).toArray s 0 0 A) (F0 m 150 ls [.int v150_s3, .int v150_s2, .int v150_s1, .ref (ad 175)]) := by
        intro f H locs ls v150_l6 v150_l5 v150_l4 v150_s1 v150_s2 v150_s3 v150_p_m_askStrand v150_p_m_askTied v150_p_c_roundOf hv150_l6 hv150_l5 hv150_l4 hv150_l3 hv150_l1 hv150_l2 hv150_s1 hv150_s2 hv150_s3 hv150_p_m_askTied hT hP hD hS hl
        refine lv_iadd hx hb dX9_layGains_150 ?_
        refine lv_topi (fun x2 ex2 => ?_)
        have hx2 := r_add ex2 (by omega) (by omega)
        obtain ⟨g4, e3⟩ := (show okI cy 288 (f 175) from hT.1 175 (by decide))
        refine va_iast hx hb hK hP hD hS 175 0 (wl_at (by decide) e3) rfl (vp_in_iff.mpr ⟨by omega, by omega⟩) dX9_layGains_151 (fun H locs hP hD hS => ?_)
        obtain ⟨f, hT, hP, hD, e5, hj6⟩ := stU (by decide) (TYm.up hT (by decide) (show OKm ad cy c_text m_taped m_size m_faultKind m_faultPlace m_at m_end m_token m_number m_name c_points c_strands c_units c_told c_ruleFrom c_ruleTo c_code c_eWhat c_eSign m_bank m_rb m_codes m_within m_piled m_unitsInRule v150_p_m_askStrand v150_p_m_askTied m_thoughtClaim m_thoughtNeed m_thoughtAll v150_p_c_roundOf m_acts m_undone m_laid m_firstMove m_seens m_time m_waysNow m_fitting 175 _ from (show okI cy 288 _ from ⟨_, rfl⟩))) hP hD
        exact j152 f H locs ls v150_l5 v150_l4 v150_p_m_askStrand v150_p_m_askTied v150_p_c_roundOf (by omega) (by omega) (by omega) (by omega) (by omega) hT hP hD hS (lv_sub hl [1, 2, 3, 4, 5, 6] rfl)
      have j136 : ∀ (f : Nat → va_E) (H : Heap) (locs : List Loc) (ls : Array Slot) (v136_l6 : Int32) (v136_l5 : Int32) (v136_l4 : Int32) (v136_s1 : Int32) (v136_s2 : Int32) (v136_p_m_askStrand : Int32) (v136_p_m_askTied : Int32) (v136_p_c_roundOf : Nat → Int32), (0 ≤ v136_l6.toInt ∧ v136_l6.toInt ≤ 4095) → (0 ≤ v136_l5.toInt ∧ v136_l5.toInt ≤ 11) → (0 ≤ v136_l4.toInt ∧ v136_l4.toInt ≤ 11) → (0 ≤ v2_l3.toInt ∧ v2_l3.toInt ≤ 143) → (0 ≤ p1.toInt ∧ p1.toInt ≤ 9) → (0 ≤ p2.toInt ∧ p2.toInt ≤ 9) → (144 ≤ v136_s1.toInt ∧ v136_s1.toInt ≤ 287) → (0 ≤ v136_s2.toInt ∧ v136_s2.toInt ≤ 2) → (0 ≤ v136_p_m_askTied.toInt ∧ v136_p_m_askTied.toInt ≤ 4095) → (TYm ad cy fr0 c_text m_taped m_size m_faultKind m_faultPlace m_at m_end m_token m_number m_name c_points c_strands c_units c_told c_ruleFrom c_ruleTo c_code c_eWhat c_eSign m_bank m_rb m_codes m_within m_piled m_unitsInRule v136_p_m_askStrand v136_p_m_askTied m_thoughtClaim m_thoughtNeed m_thoughtAll v136_p_c_roundOf m_acts m_undone m_laid m_firstMove m_seens m_time m_waysNow m_fitting f) → (va_P D vwCl (wl ad f) H) → (va_D A (wl ad f)) → (va_S A s.heap H locs) → (lv_has ls 7 [(6, .int v136_l6), (5, .int v136_l5), (4, .int v136_l4), (3, .int v2_l3), (0, .ref (ad 148)), (1, .int p1), (2, .int p2)]) → W p l e (rmO 7 159 0 0) s m ([.ref (ad 148), .int p1, .int p2] : List Value).toArray below meth c H locs 0 0 (MQ below (va_Qv (fun (g : Nat → va_E) => True ∧ (∃ (m_askStrand' : Int32) (m_askTied' : Int32) (c_roundOf' : Nat → Int32), TYm ad cy fr0 c_text m_taped m_size m_faultKind m_faultPlace m_at m_end m_token m_number m_name c_points c_strands c_units c_told c_ruleFrom c_ruleTo c_code c_eWhat c_eSign m_bank m_rb m_codes m_within m_piled m_unitsInRule m_askStrand' m_askTied' m_thoughtClaim m_thoughtNeed m_thoughtAll c_roundOf' m_acts m_undone m_laid m_firstMove m_seens m_time m_waysNow m_fitting g)) (fun g t => PstT D ad g t) A) ([.ref (ad 148), .int p1, .int p2] : List Value).toArray s 0 0 A) (F0 m 136 ls [.int v136_s2, .int v136_s1, .ref (ad 175)]) := by
        intro f H locs ls v136_l6 v136_l5 v136_l4 v136_s1 v136_s2 v136_p_m_askStrand v136_p_m_askTied v136_p_c_roundOf hv136_l6 hv136_l5 hv136_l4 hv136_l3 hv136_l1 hv136_l2 hv136_s1 hv136_s2 hv136_p_m_askTied hT hP hD hS hl
        refine lv_iload hx hb dX9_layGains_136 (lv_at hl 0 rfl) ?_
        refine lv_iload_n hx hb dX9_layGains_138 rfl (lv_at hl 5 rfl) ?_
        refine tSI (As := [.int v136_l6, .int p1]) (rest := [.int v136_s2, .int v136_s1, .ref (ad 175)]) ⟨hx, hb, hml, hown, hts⟩ hK hE hP hD hS hA hAB (s_X9_bit_0 l B0 adK adV D cy ad f v136_l6 p1 (by omega) _) (va_cwS 2 hts gX9_layGains_X9_bit rfl rfl rfl (by decide +kernel) ⟨Nat.le_of_ble_eq_true rfl, Nat.le_of_ble_eq_true rfl⟩) rfl hl.1 rfl (Nat.le_of_ble_eq_true rfl) dX9_layGains_139 ⟨Nat.le_of_ble_eq_true rfl, Nat.le_of_ble_eq_true rfl⟩ (fun r g H locs hw hP hD hS => ?_)
        obtain ⟨hrs, rfl⟩ := hw
        obtain ⟨x7, rfl⟩ : ∃ q, q = r := ⟨_, rfl⟩
        rcases hrs with ⟨rfl, h8⟩ | ⟨rfl, h9⟩
        · refine lv_if_eq (tgt := 149) hx hb dX9_layGains_142 (by decide) (fun c => absurd c (by decide)) (fun _ => ?_)
          refine lv_iconst (v := 0) hx hb dX9_layGains_145 (by decide) ?_
          refine lv_goto (tgt := 150) hx hb dX9_layGains_146 (by decide) ?_
          have ttl_0 := tl_0
          exact j150 f H locs ls v136_l6 v136_l5 v136_l4 v136_s1 v136_s2 (0 : Int32) v136_p_m_askStrand v136_p_m_askTied v136_p_c_roundOf (by omega) (by omega) (by omega) (by omega) (by omega) (by omega) (by omega) (by omega) (by omega) (by omega) hT hP hD hS (lv_sub hl [0, 1, 2, 3, 4, 5, 6] rfl)
        · refine lv_if_eq (tgt := 149) hx hb dX9_layGains_142 (by decide) (fun _ => ?_) (fun c => absurd (by decide) c)
          refine lv_iconst (v := 1) hx hb dX9_layGains_149 (by decide) ?_
          have ttl_1 := tl_1
          exact j150 f H locs ls v136_l6 v136_l5 v136_l4 v136_s1 v136_s2 (1 : Int32) v136_p_m_askStrand v136_p_m_askTied v136_p_c_roundOf (by omega) (by omega) (by omega) (by omega) (by omega) (by omega) (by omega) (by omega) (by omega) (by omega) hT hP hD hS (lv_sub hl [0, 1, 2, 3, 4, 5, 6] rfl)
      have j111 : ∀ (f : Nat → va_E) (H : Heap) (locs : List Loc) (ls : Array Slot) (v111_l6 : Int32) (v111_l5 : Int32) (v111_l4 : Int32) (v111_s2 : Int32) (v111_s3 : Int32) (v111_p_m_askStrand : Int32) (v111_p_m_askTied : Int32) (v111_p_c_roundOf : Nat → Int32), (0 ≤ v111_l6.toInt ∧ v111_l6.toInt ≤ 4095) → (0 ≤ v111_l5.toInt ∧ v111_l5.toInt ≤ 11) → (0 ≤ v111_l4.toInt ∧ v111_l4.toInt ≤ 11) → (0 ≤ v2_l3.toInt ∧ v2_l3.toInt ≤ 143) → (0 ≤ p1.toInt ∧ p1.toInt ≤ 9) → (0 ≤ p2.toInt ∧ p2.toInt ≤ 9) → (0 ≤ v2_l3.toInt ∧ v2_l3.toInt ≤ 143) → (0 ≤ v111_s2.toInt ∧ v111_s2.toInt ≤ 2) → (0 ≤ v111_s3.toInt ∧ v111_s3.toInt ≤ 1) → (0 ≤ v111_p_m_askTied.toInt ∧ v111_p_m_askTied.toInt ≤ 4095) → (TYm ad cy fr0 c_text m_taped m_size m_faultKind m_faultPlace m_at m_end m_token m_number m_name c_points c_strands c_units c_told c_ruleFrom c_ruleTo c_code c_eWhat c_eSign m_bank m_rb m_codes m_within m_piled m_unitsInRule v111_p_m_askStrand v111_p_m_askTied m_thoughtClaim m_thoughtNeed m_thoughtAll v111_p_c_roundOf m_acts m_undone m_laid m_firstMove m_seens m_time m_waysNow m_fitting f) → (va_P D vwCl (wl ad f) H) → (va_D A (wl ad f)) → (va_S A s.heap H locs) → (lv_has ls 7 [(6, .int v111_l6), (5, .int v111_l5), (4, .int v111_l4), (3, .int v2_l3), (0, .ref (ad 148)), (1, .int p1), (2, .int p2)]) → W p l e (rmO 7 159 0 0) s m ([.ref (ad 148), .int p1, .int p2] : List Value).toArray below meth c H locs 0 0 (MQ below (va_Qv (fun (g : Nat → va_E) => True ∧ (∃ (m_askStrand' : Int32) (m_askTied' : Int32) (c_roundOf' : Nat → Int32), TYm ad cy fr0 c_text m_taped m_size m_faultKind m_faultPlace m_at m_end m_token m_number m_name c_points c_strands c_units c_told c_ruleFrom c_ruleTo c_code c_eWhat c_eSign m_bank m_rb m_codes m_within m_piled m_unitsInRule m_askStrand' m_askTied' m_thoughtClaim m_thoughtNeed m_thoughtAll c_roundOf' m_acts m_undone m_laid m_firstMove m_seens m_time m_waysNow m_fitting g)) (fun g t => PstT D ad g t) A) ([.ref (ad 148), .int p1, .int p2] : List Value).toArray s 0 0 A) (F0 m 111 ls [.int v111_s3, .int v111_s2, .int v2_l3, .ref (ad 175)]) := by
        intro f H locs ls v111_l6 v111_l5 v111_l4 v111_s2 v111_s3 v111_p_m_askStrand v111_p_m_askTied v111_p_c_roundOf hv111_l6 hv111_l5 hv111_l4 hv111_l3 hv111_l1 hv111_l2 hv111_s1 hv111_s2 hv111_s3 hv111_p_m_askTied hT hP hD hS hl
        refine lv_iadd hx hb dX9_layGains_111 ?_
        refine lv_topi (fun x10 ex10 => ?_)
        have hx10 := r_add ex10 (by omega) (by omega)
        obtain ⟨g12, e11⟩ := (show okI cy 288 (f 175) from hT.1 175 (by decide))
        refine va_iast hx hb hK hP hD hS 175 0 (wl_at (by decide) e11) rfl (vp_in_iff.mpr ⟨by omega, by omega⟩) dX9_layGains_112 (fun H locs hP hD hS => ?_)
        obtain ⟨f, hT, hP, hD, e13, hj14⟩ := stU (by decide) (TYm.up hT (by decide) (show OKm ad cy c_text m_taped m_size m_faultKind m_faultPlace m_at m_end m_token m_number m_name c_points c_strands c_units c_told c_ruleFrom c_ruleTo c_code c_eWhat c_eSign m_bank m_rb m_codes m_within m_piled m_unitsInRule v111_p_m_askStrand v111_p_m_askTied m_thoughtClaim m_thoughtNeed m_thoughtAll v111_p_c_roundOf m_acts m_undone m_laid m_firstMove m_seens m_time m_waysNow m_fitting 175 _ from (show okI cy 288 _ from ⟨_, rfl⟩))) hP hD
        refine lv_aload_n hx hb dX9_layGains_113 rfl (lv_at hl 4 rfl) ?_
        obtain ⟨e30, h15, h16, h17, h18, h19, h20, h21, h22, h23, h24, h25, h26, h27, h28, h29⟩ := (show okX9 ad m_taped m_size m_faultKind m_faultPlace m_at m_end m_token m_number m_name m_bank m_rb m_codes m_within m_piled m_unitsInRule v111_p_m_askStrand v111_p_m_askTied m_thoughtClaim m_thoughtNeed m_thoughtAll m_acts m_undone m_laid m_firstMove m_seens m_time m_waysNow m_fitting 148 (f 148) from hT.1 148 (by decide))
        refine va_get (D := D) (cl := vwCl) (ci := 9) (v := .ref (ad 175)) (C := RX9) (T := TX9) (N := 64) hx hb hts in_X9_layGains_X9 hown hK hP 148 (wl_at (by decide) e30) rfl 50 (by decide) (hts (.fieldLink RX9 100 "EightReasonsModel" "gains" "[I") (List.mem_of_getElem? (i := 2) rfl)) (fun _ h9 => h9) rfl dX9_layGains_114 ?_
        refine lv_sipush (v := 144) hx hb dX9_layGains_117 (by decide) ?_
        refine lv_iload_n hx hb dX9_layGains_120 rfl (lv_at hl 3 rfl) ?_
        have ttl_144 := tl_144
        refine lv_iadd hx hb dX9_layGains_121 ?_
        refine lv_topi (fun x31 ex31 => ?_)
        have hx31 := r_add ex31 (by omega) (by omega)
        refine lv_iload hx hb dX9_layGains_122 (lv_at hl 0 rfl) ?_
        refine lv_iload_n hx hb dX9_layGains_124 rfl (lv_at hl 6 rfl) ?_
        refine tSI (As := [.int v111_l6, .int p2]) (rest := [.int x31, .ref (ad 175)]) ⟨hx, hb, hml, hown, hts⟩ hK hE hP hD hS hA hAB (s_X9_bit_0 l B0 adK adV D cy ad f v111_l6 p2 (by omega) _) (va_cwS 2 hts gX9_layGains_X9_bit rfl rfl rfl (by decide +kernel) ⟨Nat.le_of_ble_eq_true rfl, Nat.le_of_ble_eq_true rfl⟩) rfl hl.1 rfl (Nat.le_of_ble_eq_true rfl) dX9_layGains_125 ⟨Nat.le_of_ble_eq_true rfl, Nat.le_of_ble_eq_true rfl⟩ (fun r g H locs hw hP hD hS => ?_)
        obtain ⟨hrs, rfl⟩ := hw
        obtain ⟨x32, rfl⟩ : ∃ q, q = r := ⟨_, rfl⟩
        rcases hrs with ⟨rfl, h33⟩ | ⟨rfl, h34⟩
        · refine lv_if_eq (tgt := 135) hx hb dX9_layGains_128 (by decide) (fun c => absurd c (by decide)) (fun _ => ?_)
          refine lv_iconst (v := 2) hx hb dX9_layGains_131 (by decide) ?_
          refine lv_goto (tgt := 136) hx hb dX9_layGains_132 (by decide) ?_
          have ttl_2 := tl_2
          exact j136 f H locs ls v111_l6 v111_l5 v111_l4 x31 (2 : Int32) v111_p_m_askStrand v111_p_m_askTied v111_p_c_roundOf (by omega) (by omega) (by omega) (by omega) (by omega) (by omega) (by omega) (by omega) (by omega) hT hP hD hS (lv_sub hl [0, 1, 2, 3, 4, 5, 6] rfl)
        · refine lv_if_eq (tgt := 135) hx hb dX9_layGains_128 (by decide) (fun _ => ?_) (fun c => absurd (by decide) c)
          refine lv_iconst (v := 0) hx hb dX9_layGains_135 (by decide) ?_
          have ttl_0 := tl_0
          exact j136 f H locs ls v111_l6 v111_l5 v111_l4 x31 (0 : Int32) v111_p_m_askStrand v111_p_m_askTied v111_p_c_roundOf (by omega) (by omega) (by omega) (by omega) (by omega) (by omega) (by omega) (by omega) (by omega) hT hP hD hS (lv_sub hl [0, 1, 2, 3, 4, 5, 6] rfl)
      have j97 : ∀ (f : Nat → va_E) (H : Heap) (locs : List Loc) (ls : Array Slot) (v97_l6 : Int32) (v97_l5 : Int32) (v97_l4 : Int32) (v97_s2 : Int32) (v97_p_m_askStrand : Int32) (v97_p_m_askTied : Int32) (v97_p_c_roundOf : Nat → Int32), (0 ≤ v97_l6.toInt ∧ v97_l6.toInt ≤ 4095) → (0 ≤ v97_l5.toInt ∧ v97_l5.toInt ≤ 11) → (0 ≤ v97_l4.toInt ∧ v97_l4.toInt ≤ 11) → (0 ≤ v2_l3.toInt ∧ v2_l3.toInt ≤ 143) → (0 ≤ p1.toInt ∧ p1.toInt ≤ 9) → (0 ≤ p2.toInt ∧ p2.toInt ≤ 9) → (0 ≤ v2_l3.toInt ∧ v2_l3.toInt ≤ 143) → (0 ≤ v97_s2.toInt ∧ v97_s2.toInt ≤ 2) → (0 ≤ v97_p_m_askTied.toInt ∧ v97_p_m_askTied.toInt ≤ 4095) → (TYm ad cy fr0 c_text m_taped m_size m_faultKind m_faultPlace m_at m_end m_token m_number m_name c_points c_strands c_units c_told c_ruleFrom c_ruleTo c_code c_eWhat c_eSign m_bank m_rb m_codes m_within m_piled m_unitsInRule v97_p_m_askStrand v97_p_m_askTied m_thoughtClaim m_thoughtNeed m_thoughtAll v97_p_c_roundOf m_acts m_undone m_laid m_firstMove m_seens m_time m_waysNow m_fitting f) → (va_P D vwCl (wl ad f) H) → (va_D A (wl ad f)) → (va_S A s.heap H locs) → (lv_has ls 7 [(6, .int v97_l6), (5, .int v97_l5), (4, .int v97_l4), (3, .int v2_l3), (0, .ref (ad 148)), (1, .int p1), (2, .int p2)]) → W p l e (rmO 7 159 0 0) s m ([.ref (ad 148), .int p1, .int p2] : List Value).toArray below meth c H locs 0 0 (MQ below (va_Qv (fun (g : Nat → va_E) => True ∧ (∃ (m_askStrand' : Int32) (m_askTied' : Int32) (c_roundOf' : Nat → Int32), TYm ad cy fr0 c_text m_taped m_size m_faultKind m_faultPlace m_at m_end m_token m_number m_name c_points c_strands c_units c_told c_ruleFrom c_ruleTo c_code c_eWhat c_eSign m_bank m_rb m_codes m_within m_piled m_unitsInRule m_askStrand' m_askTied' m_thoughtClaim m_thoughtNeed m_thoughtAll c_roundOf' m_acts m_undone m_laid m_firstMove m_seens m_time m_waysNow m_fitting g)) (fun g t => PstT D ad g t) A) ([.ref (ad 148), .int p1, .int p2] : List Value).toArray s 0 0 A) (F0 m 97 ls [.int v97_s2, .int v2_l3, .ref (ad 175)]) := by
        intro f H locs ls v97_l6 v97_l5 v97_l4 v97_s2 v97_p_m_askStrand v97_p_m_askTied v97_p_c_roundOf hv97_l6 hv97_l5 hv97_l4 hv97_l3 hv97_l1 hv97_l2 hv97_s1 hv97_s2 hv97_p_m_askTied hT hP hD hS hl
        refine lv_iload hx hb dX9_layGains_97 (lv_at hl 0 rfl) ?_
        refine lv_iload_n hx hb dX9_layGains_99 rfl (lv_at hl 6 rfl) ?_
        refine tSI (As := [.int v97_l6, .int p2]) (rest := [.int v97_s2, .int v2_l3, .ref (ad 175)]) ⟨hx, hb, hml, hown, hts⟩ hK hE hP hD hS hA hAB (s_X9_bit_0 l B0 adK adV D cy ad f v97_l6 p2 (by omega) _) (va_cwS 2 hts gX9_layGains_X9_bit rfl rfl rfl (by decide +kernel) ⟨Nat.le_of_ble_eq_true rfl, Nat.le_of_ble_eq_true rfl⟩) rfl hl.1 rfl (Nat.le_of_ble_eq_true rfl) dX9_layGains_100 ⟨Nat.le_of_ble_eq_true rfl, Nat.le_of_ble_eq_true rfl⟩ (fun r g H locs hw hP hD hS => ?_)
        obtain ⟨hrs, rfl⟩ := hw
        obtain ⟨x35, rfl⟩ : ∃ q, q = r := ⟨_, rfl⟩
        rcases hrs with ⟨rfl, h36⟩ | ⟨rfl, h37⟩
        · refine lv_if_eq (tgt := 110) hx hb dX9_layGains_103 (by decide) (fun c => absurd c (by decide)) (fun _ => ?_)
          refine lv_iconst (v := 0) hx hb dX9_layGains_106 (by decide) ?_
          refine lv_goto (tgt := 111) hx hb dX9_layGains_107 (by decide) ?_
          have ttl_0 := tl_0
          exact j111 f H locs ls v97_l6 v97_l5 v97_l4 v97_s2 (0 : Int32) v97_p_m_askStrand v97_p_m_askTied v97_p_c_roundOf (by omega) (by omega) (by omega) (by omega) (by omega) (by omega) (by omega) (by omega) (by omega) (by omega) hT hP hD hS (lv_sub hl [0, 1, 2, 3, 4, 5, 6] rfl)
        · refine lv_if_eq (tgt := 110) hx hb dX9_layGains_103 (by decide) (fun _ => ?_) (fun c => absurd (by decide) c)
          refine lv_iconst (v := 1) hx hb dX9_layGains_110 (by decide) ?_
          have ttl_1 := tl_1
          exact j111 f H locs ls v97_l6 v97_l5 v97_l4 v97_s2 (1 : Int32) v97_p_m_askStrand v97_p_m_askTied v97_p_c_roundOf (by omega) (by omega) (by omega) (by omega) (by omega) (by omega) (by omega) (by omega) (by omega) (by omega) hT hP hD hS (lv_sub hl [0, 1, 2, 3, 4, 5, 6] rfl)
      refine lv_iload_n hx hb dX9_layGains_2 rfl (lv_at hl 0 rfl) ?_
      refine lv_sipush (v := 144) hx hb dX9_layGains_3 (by decide) ?_
      have ttl_144 := tl_144
      refine lv_icmp_ge (tgt := 158) hx hb dX9_layGains_6 (by decide) (fun c38 => ?_) (fun c38 => ?_)
      · have kc38 := c_le c38
        exact tV hx hb hr hlk hP hS ⟨trivial, ⟨v2_p_m_askStrand, v2_p_m_askTied, v2_p_c_roundOf, hT⟩⟩ dX9_layGains_158
      · have kc38 := c_nle c38
        refine lv_iload_n hx hb dX9_layGains_9 rfl (lv_at hl 0 rfl) ?_
        refine lv_bipush (v := 12) hx hb dX9_layGains_10 (by decide) ?_
        refine lv_idiv hx hb dX9_layGains_12 (by decide) ?_
        refine lv_topi (fun x39 ex39 => ?_)
        have hx39 := r_div ex39 tl_12 (by omega) (by decide)
        refine lv_istore (lv' := [(4, .int x39), (3, .int v2_l3), (0, .ref (ad 148)), (1, .int p1), (2, .int p2)]) hx hb dX9_layGains_13 hl (by decide) rfl (fun ls hl => ?_)
        refine lv_iload_n hx hb dX9_layGains_15 rfl (lv_at hl 1 rfl) ?_
        refine lv_bipush (v := 12) hx hb dX9_layGains_16 (by decide) ?_
        refine lv_irem hx hb dX9_layGains_18 (by decide) ?_
        refine lv_topi (fun x40 ex40 => ?_)
        have hx40 := r_rem ex40 tl_12 (by omega) (by decide)
        refine lv_istore (lv' := [(5, .int x40), (4, .int x39), (3, .int v2_l3), (0, .ref (ad 148)), (1, .int p1), (2, .int p2)]) hx hb dX9_layGains_19 hl (by decide) rfl (fun ls hl => ?_)
        refine lv_aload_n hx hb dX9_layGains_21 rfl (lv_at hl 3 rfl) ?_
        obtain ⟨e56, h41, h42, h43, h44, h45, h46, h47, h48, h49, h50, h51, h52, h53, h54, h55⟩ := (show okX9 ad m_taped m_size m_faultKind m_faultPlace m_at m_end m_token m_number m_name m_bank m_rb m_codes m_within m_piled m_unitsInRule v2_p_m_askStrand v2_p_m_askTied m_thoughtClaim m_thoughtNeed m_thoughtAll m_acts m_undone m_laid m_firstMove m_seens m_time m_waysNow m_fitting 148 (f 148) from hT.1 148 (by decide))
        refine va_get (D := D) (cl := vwCl) (ci := 9) (v := .ref (ad 169)) (C := RX9) (T := TX9) (N := 64) hx hb hts in_X9_layGains_X9 hown hK hP 148 (wl_at (by decide) e56) rfl 37 (by decide) (hts (.fieldLink RX9 76 "EightReasonsModel" "all" "[I") (List.mem_of_getElem? (i := 1) rfl)) (fun _ h9 => h9) rfl dX9_layGains_22 ?_
        refine lv_iconst (v := 1) hx hb dX9_layGains_25 (by decide) ?_
        obtain ⟨g59, e57, h58⟩ := (show okIr cy 16 (0) (4095) 16 1 (f 169) from hT.1 169 (by decide))
        have ttl_1 := tl_1
        refine va_iald hx hb hK hP 169 0 (wl_at (by decide) e57) rfl (vin (by decide)) dX9_layGains_26 ?_
        refine lv_topi (fun x60 ex60 => ?_)
        have hx60 := r_el (h58 _ (by decide)) ex60
        refine lv_iload hx hb dX9_layGains_27 (lv_at hl 1 rfl) ?_
        refine tSI (As := [.int x60, .int x39]) (rest := []) ⟨hx, hb, hml, hown, hts⟩ hK hE hP hD hS hA hAB (s_X9_bit_0 l B0 adK adV D cy ad f x60 x39 (by omega) _) (va_cwS 2 hts gX9_layGains_X9_bit rfl rfl rfl (by decide +kernel) ⟨Nat.le_of_ble_eq_true rfl, Nat.le_of_ble_eq_true rfl⟩) rfl hl.1 rfl (Nat.le_of_ble_eq_true rfl) dX9_layGains_29 ⟨Nat.le_of_ble_eq_true rfl, Nat.le_of_ble_eq_true rfl⟩ (fun r g H locs hw hP hD hS => ?_)
        obtain ⟨hrs, rfl⟩ := hw
        obtain ⟨x61, rfl⟩ : ∃ q, q = r := ⟨_, rfl⟩
        rcases hrs with ⟨rfl, h62⟩ | ⟨rfl, h63⟩
        · refine lv_if_eq (tgt := 152) hx hb dX9_layGains_32 (by decide) (fun c => absurd c (by decide)) (fun _ => ?_)
          refine lv_aload_n hx hb dX9_layGains_35 rfl (lv_at hl 3 rfl) ?_
          refine va_get (D := D) (cl := vwCl) (ci := 9) (v := .ref (ad 169)) (C := RX9) (T := TX9) (N := 64) hx hb hts in_X9_layGains_X9 hown hK hP 148 (wl_at (by decide) e56) rfl 37 (by decide) (hts (.fieldLink RX9 76 "EightReasonsModel" "all" "[I") (List.mem_of_getElem? (i := 1) rfl)) (fun _ h9 => h9) rfl dX9_layGains_36 ?_
          refine lv_iconst (v := 1) hx hb dX9_layGains_39 (by decide) ?_
          refine va_iald hx hb hK hP 169 0 (wl_at (by decide) e57) rfl (vin (by decide)) dX9_layGains_40 ?_
          refine lv_topi (fun x64 ex64 => ?_)
          have hx64 := r_el (h58 _ (by decide)) ex64
          refine lv_iload hx hb dX9_layGains_41 (lv_at hl 0 rfl) ?_
          refine tSI (As := [.int x64, .int x40]) (rest := []) ⟨hx, hb, hml, hown, hts⟩ hK hE hP hD hS hA hAB (s_X9_bit_0 l B0 adK adV D cy ad f x64 x40 (by omega) _) (va_cwS 2 hts gX9_layGains_X9_bit rfl rfl rfl (by decide +kernel) ⟨Nat.le_of_ble_eq_true rfl, Nat.le_of_ble_eq_true rfl⟩) rfl hl.1 rfl (Nat.le_of_ble_eq_true rfl) dX9_layGains_43 ⟨Nat.le_of_ble_eq_true rfl, Nat.le_of_ble_eq_true rfl⟩ (fun r g H locs hw hP hD hS => ?_)
          obtain ⟨hrs, rfl⟩ := hw
          obtain ⟨x65, rfl⟩ : ∃ q, q = r := ⟨_, rfl⟩
          rcases hrs with ⟨rfl, h66⟩ | ⟨rfl, h67⟩
          · refine lv_if_ne (tgt := 52) hx hb dX9_layGains_46 (by decide) (fun _ => ?_) (fun c => absurd c (by decide))
            refine lv_aload_n hx hb dX9_layGains_52 rfl (lv_at hl 3 rfl) ?_
            refine lv_aload_n hx hb dX9_layGains_53 rfl (lv_at hl 3 rfl) ?_
            refine va_get (D := D) (cl := vwCl) (ci := 9) (v := .ref (ad 169)) (C := RX9) (T := TX9) (N := 64) hx hb hts in_X9_layGains_X9 hown hK hP 148 (wl_at (by decide) e56) rfl 37 (by decide) (hts (.fieldLink RX9 76 "EightReasonsModel" "all" "[I") (List.mem_of_getElem? (i := 1) rfl)) (fun _ h9 => h9) rfl dX9_layGains_54 ?_
            refine lv_iconst (v := 1) hx hb dX9_layGains_57 (by decide) ?_
            refine va_iald hx hb hK hP 169 0 (wl_at (by decide) e57) rfl (vin (by decide)) dX9_layGains_58 ?_
            refine lv_topi (fun x68 ex68 => ?_)
            have hx68 := r_el (h58 _ (by decide)) ex68
            refine lv_iconst (v := 1) hx hb dX9_layGains_59 (by decide) ?_
            refine lv_iload hx hb dX9_layGains_60 (lv_at hl 1 rfl) ?_
            refine lv_ishl hx hb dX9_layGains_62 ?_
            refine lv_topi (fun x69 ex69 => ?_)
            have hx69 := r_shl (K := 11) (M := 2048) ex69 (by decide) (by decide) (by omega) (by omega)
            refine lv_iconst (v := (-1)) hx hb dX9_layGains_63 (by decide) ?_
            refine lv_ixor hx hb dX9_layGains_64 ?_
            refine lv_topi (fun x70 ex70 => ?_)
            refine lv_iand hx hb dX9_layGains_65 ?_
            refine lv_topi (fun x71 ex71 => ?_)
            have hx71 := r_andl ex71 (by omega)
            refine lv_iconst (v := 1) hx hb dX9_layGains_66 (by decide) ?_
            refine lv_iload hx hb dX9_layGains_67 (lv_at hl 0 rfl) ?_
            refine lv_ishl hx hb dX9_layGains_69 ?_
            refine lv_topi (fun x72 ex72 => ?_)
            have hx72 := r_shl (K := 11) (M := 2048) ex72 (by decide) (by decide) (by omega) (by omega)
            refine lv_iconst (v := (-1)) hx hb dX9_layGains_70 (by decide) ?_
            refine lv_ixor hx hb dX9_layGains_71 ?_
            refine lv_topi (fun x73 ex73 => ?_)
            refine lv_iand hx hb dX9_layGains_72 ?_
            refine lv_topi (fun x74 ex74 => ?_)
            have hx74 := r_andl ex74 (by omega)
            refine tVI (As := [.int x74]) (rest := []) (i := 148) ⟨hx, hb, hml, hown, hts⟩ hK hE hP hD hS hA hAB (s_X9_standWith_0 l B0 adK adV D cy ad fr0 c_text m_taped m_size m_faultKind m_faultPlace m_at m_end m_token m_number m_name c_points c_strands c_units c_told c_ruleFrom c_ruleTo c_code c_eWhat c_eSign m_bank m_rb m_codes m_within m_piled m_unitsInRule v2_p_m_askStrand v2_p_m_askTied m_thoughtClaim m_thoughtNeed m_thoughtAll v2_p_c_roundOf m_acts m_undone m_laid m_firstMove m_seens m_time m_waysNow m_fitting f hT x74 (by omega) hCV _) (cwV 1 hts gX9_layGains_X9_standWith rfl rfl rfl (by decide +kernel) ⟨Nat.le_of_ble_eq_true rfl, Nat.le_of_ble_eq_true rfl⟩) (by decide) 9 e56 rfl rfl hl.1 rfl (Nat.le_of_ble_eq_true rfl) dX9_layGains_73 ⟨Nat.le_of_ble_eq_true rfl, Nat.le_of_ble_eq_true rfl⟩ (fun r f H locs hw hP hD hS => ?_)
            obtain ⟨hrs, x75, x76, y77, hT, h78⟩ := hw
            obtain ⟨x79, rfl⟩ : ∃ q, q = r := ⟨_, rfl⟩
            have h80 := hrs
            refine lv_istore (lv' := [(6, .int x79), (5, .int x40), (4, .int x39), (3, .int v2_l3), (0, .ref (ad 148)), (1, .int p1), (2, .int p2)]) hx hb dX9_layGains_76 hl (by decide) rfl (fun ls hl => ?_)
            refine lv_aload_n hx hb dX9_layGains_78 rfl (lv_at hl 4 rfl) ?_
            obtain ⟨e96, h81, h82, h83, h84, h85, h86, h87, h88, h89, h90, h91, h92, h93, h94, h95⟩ := (show okX9 ad m_taped m_size m_faultKind m_faultPlace m_at m_end m_token m_number m_name m_bank m_rb m_codes m_within m_piled m_unitsInRule x75 x76 m_thoughtClaim m_thoughtNeed m_thoughtAll m_acts m_undone m_laid m_firstMove m_seens m_time m_waysNow m_fitting 148 (f 148) from hT.1 148 (by decide))
            refine va_get (D := D) (cl := vwCl) (ci := 9) (v := .ref (ad 175)) (C := RX9) (T := TX9) (N := 64) hx hb hts in_X9_layGains_X9 hown hK hP 148 (wl_at (by decide) e96) rfl 50 (by decide) (hts (.fieldLink RX9 100 "EightReasonsModel" "gains" "[I") (List.mem_of_getElem? (i := 2) rfl)) (fun _ h9 => h9) rfl dX9_layGains_79 ?_
            refine lv_iload_n hx hb dX9_layGains_82 rfl (lv_at hl 3 rfl) ?_
            refine lv_iload hx hb dX9_layGains_83 (lv_at hl 0 rfl) ?_
            refine lv_iload_n hx hb dX9_layGains_85 rfl (lv_at hl 5 rfl) ?_
            refine tSI (As := [.int x79, .int p1]) (rest := [.int v2_l3, .ref (ad 175)]) ⟨hx, hb, hml, hown, hts⟩ hK hE hP hD hS hA hAB (s_X9_bit_0 l B0 adK adV D cy ad f x79 p1 (by omega) _) (va_cwS 2 hts gX9_layGains_X9_bit rfl rfl rfl (by decide +kernel) ⟨Nat.le_of_ble_eq_true rfl, Nat.le_of_ble_eq_true rfl⟩) rfl hl.1 rfl (Nat.le_of_ble_eq_true rfl) dX9_layGains_86 ⟨Nat.le_of_ble_eq_true rfl, Nat.le_of_ble_eq_true rfl⟩ (fun r g H locs hw hP hD hS => ?_)
            obtain ⟨hrs, rfl⟩ := hw
            obtain ⟨x97, rfl⟩ : ∃ q, q = r := ⟨_, rfl⟩
            rcases hrs with ⟨rfl, h98⟩ | ⟨rfl, h99⟩
            · refine lv_if_eq (tgt := 96) hx hb dX9_layGains_89 (by decide) (fun c => absurd c (by decide)) (fun _ => ?_)
              refine lv_iconst (v := 2) hx hb dX9_layGains_92 (by decide) ?_
              refine lv_goto (tgt := 97) hx hb dX9_layGains_93 (by decide) ?_
              have ttl_2 := tl_2
              exact j97 f H locs ls x79 x40 x39 (2 : Int32) x75 x76 y77 (by omega) (by omega) (by omega) (by omega) (by omega) (by omega) (by omega) (by omega) (by omega) hT hP hD hS (lv_sub hl [0, 1, 2, 3, 4, 5, 6] rfl)
            · refine lv_if_eq (tgt := 96) hx hb dX9_layGains_89 (by decide) (fun _ => ?_) (fun c => absurd (by decide) c)
              refine lv_iconst (v := 0) hx hb dX9_layGains_96 (by decide) ?_
              have ttl_0 := tl_0
              exact j97 f H locs ls x79 x40 x39 (0 : Int32) x75 x76 y77 (by omega) (by omega) (by omega) (by omega) (by omega) (by omega) (by omega) (by omega) (by omega) hT hP hD hS (lv_sub hl [0, 1, 2, 3, 4, 5, 6] rfl)
          · refine lv_if_ne (tgt := 52) hx hb dX9_layGains_46 (by decide) (fun c => absurd (by decide) c) (fun _ => ?_)
            refine lv_goto (tgt := 152) hx hb dX9_layGains_49 (by decide) ?_
            exact j152 f H locs ls x40 x39 v2_p_m_askStrand v2_p_m_askTied v2_p_c_roundOf (by omega) (by omega) (by omega) (by omega) (by omega) hT hP hD hS (lv_sub hl [0, 1, 2, 3, 4, 5] rfl)
        · refine lv_if_eq (tgt := 152) hx hb dX9_layGains_32 (by decide) (fun _ => ?_) (fun c => absurd (by decide) c)
          exact j152 f H locs ls x40 x39 v2_p_m_askStrand v2_p_m_askTied v2_p_c_roundOf (by omega) (by omega) (by omega) (by omega) (by omega) hT hP hD hS (lv_sub hl [0, 1, 2, 3, 4, 5] rfl)
  refine lv_iconst (v := 0) hx hb dX9_layGains_0 (by decide) ?_
  refine lv_istore_n (lv' := [(3, .int 0), (0, .ref (ad 148)), (1, .int p1), (2, .int p2)]) hx hb dX9_layGains_1 rfl hl (by decide) rfl (fun ls hl => ?_)
  have ttl_0 := tl_0
  exact j2 (Int.toNat (145 - (0 : Int32).toInt)) f H locs ls (0 : Int32) m_askStrand m_askTied c_roundOf (by omega) (by omega) (by omega) (by omega) hT hP hD hS (lv_sub hl [0, 1, 2, 3] rfl)
set_option maxHeartbeats 4000000 in
set_option maxRecDepth 100000 in
theorem s_X9_counsels_0 (l : Launch) (B0 : Nat) (adK adV : Nat → Nat) (D : va_G) (cy : Nat → ClassId) (ad : Nat → Nat) (fr0 : Nat → va_E) (c_text : Nat → Int32) (m_taped : Int32) (m_size : Int32) (m_faultKind : Int32) (m_faultPlace : Int32) (m_at : Int32) (m_end : Int32) (m_token : Int32) (m_number : Int32) (m_name : Int64) (c_points : Nat → Int32) (c_strands : Nat → Int32) (c_units : Nat → Int32) (c_told : Nat → Int32) (c_ruleFrom : Nat → Int32) (c_ruleTo : Nat → Int32) (c_code : Nat → Int32) (c_eWhat : Nat → Int32) (c_eSign : Nat → Int32) (m_bank : Int32) (m_rb : Int32) (m_codes : Int32) (m_within : Int32) (m_piled : Int32) (m_unitsInRule : Int32) (m_askStrand : Int32) (m_askTied : Int32) (m_thoughtClaim : Int32) (m_thoughtNeed : Int32) (m_thoughtAll : Int32) (c_roundOf : Nat → Int32) (m_acts : Int32) (m_undone : Int32) (m_laid : Int32) (m_firstMove : Int32) (m_seens : Int32) (m_time : Int32) (m_waysNow : Int32) (m_fitting : Int32) (f : Nat → va_E) (hT : TYm ad cy fr0 c_text m_taped m_size m_faultKind m_faultPlace m_at m_end m_token m_number m_name c_points c_strands c_units c_told c_ruleFrom c_ruleTo c_code c_eWhat c_eSign m_bank m_rb m_codes m_within m_piled m_unitsInRule m_askStrand m_askTied m_thoughtClaim m_thoughtNeed m_thoughtAll c_roundOf m_acts m_undone m_laid m_firstMove m_seens m_time m_waysNow m_fitting f) (p1 : Int32) (p2 : Int32) (hCV : CVp c_told c_ruleFrom c_ruleTo c_code m_bank) (sz : Nat) : TtI l yX9_counsels wsX9_counsels 8 185 [.ref (ad 148), .int p1, .int p2] B0 adK adV D cy ad f sz (fun (r : Int32) (g : Nat → va_E) => True ∧ (∃ (m_askStrand' : Int32) (m_askTied' : Int32) (c_roundOf' : Nat → Int32) (m_laid' : Int32), TYm ad cy fr0 c_text m_taped m_size m_faultKind m_faultPlace m_at m_end m_token m_number m_name c_points c_strands c_units c_told c_ruleFrom c_ruleTo c_code c_eWhat c_eSign m_bank m_rb m_codes m_within m_piled m_unitsInRule m_askStrand' m_askTied' m_thoughtClaim m_thoughtNeed m_thoughtAll c_roundOf' m_acts m_undone m_laid' m_firstMove m_seens m_time m_waysNow m_fitting g ∧ (0 ≤ m_laid'.toInt ∧ m_laid'.toInt ≤ 2))) := by
  refine TtI.of (cc := cX9_counsels) (maxL := 5) (ty := .int) (own := RX9) (by decide) rfl (Nat.le_of_ble_eq_true rfl) rfl ?_
  intro p e s m below meth c A ls hx hb hr hml hts hown hlk hK hE hP hD hS hA hAB hl
  have hl : lv_has ls 5 [(0, .ref (ad 148)), (1, .int p1), (2, .int p2)] := hl
  refine st0 (fun H locs hP hS => ?_) hP hS
  have j48 : ∀ (N : Nat) (f : Nat → va_E) (H : Heap) (locs : List Loc) (ls : Array Slot) (v48_l4 : Int32) (v48_l3 : Int32) (v48_p_m_askStrand : Int32) (v48_p_m_askTied : Int32) (v48_p_c_roundOf : Nat → Int32) (v48_p_m_laid : Int32), (145 - v48_l4.toInt ≤ (N : Int)) → (0 ≤ v48_l4.toInt ∧ v48_l4.toInt ≤ 144) → (0 ≤ p1.toInt ∧ p1.toInt ≤ 9) → (0 ≤ p2.toInt ∧ p2.toInt ≤ 9) → (0 ≤ v48_p_m_laid.toInt ∧ v48_p_m_laid.toInt ≤ 2) → (TYm ad cy fr0 c_text m_taped m_size m_faultKind m_faultPlace m_at m_end m_token m_number m_name c_points c_strands c_units c_told c_ruleFrom c_ruleTo c_code c_eWhat c_eSign m_bank m_rb m_codes m_within m_piled m_unitsInRule v48_p_m_askStrand v48_p_m_askTied m_thoughtClaim m_thoughtNeed m_thoughtAll v48_p_c_roundOf m_acts m_undone v48_p_m_laid m_firstMove m_seens m_time m_waysNow m_fitting f) → (va_P D vwCl (wl ad f) H) → (va_D A (wl ad f)) → (va_S A s.heap H locs) → (lv_has ls 5 [(4, .int v48_l4), (3, .int v48_l3), (0, .ref (ad 148)), (1, .int p1), (2, .int p2)]) → W p l e (rmO 8 185 0 0) s m ([.ref (ad 148), .int p1, .int p2] : List Value).toArray below meth c H locs 0 0 (MQ below (va_Qi (fun (r : Int32) (g : Nat → va_E) => True ∧ (∃ (m_askStrand' : Int32) (m_askTied' : Int32) (c_roundOf' : Nat → Int32) (m_laid' : Int32), TYm ad cy fr0 c_text m_taped m_size m_faultKind m_faultPlace m_at m_end m_token m_number m_name c_points c_strands c_units c_told c_ruleFrom c_ruleTo c_code c_eWhat c_eSign m_bank m_rb m_codes m_within m_piled m_unitsInRule m_askStrand' m_askTied' m_thoughtClaim m_thoughtNeed m_thoughtAll c_roundOf' m_acts m_undone m_laid' m_firstMove m_seens m_time m_waysNow m_fitting g ∧ (0 ≤ m_laid'.toInt ∧ m_laid'.toInt ≤ 2))) (fun g t => PstT D ad g t) A) ([.ref (ad 148), .int p1, .int p2] : List Value).toArray s 0 0 A) (F0 m 48 ls []) := by
    intro N
    induction N with
    | zero => intro f H locs ls v48_l4 v48_l3 v48_p_m_askStrand v48_p_m_askTied v48_p_c_roundOf v48_p_m_laid hN hv48_l4 hv48_l1 hv48_l2 hv48_p_m_laid hT hP hD hS hl; exact absurd hN (by omega)
    | succ N ih48 =>
      intro f H locs ls v48_l4 v48_l3 v48_p_m_askStrand v48_p_m_askTied v48_p_c_roundOf v48_p_m_laid hN hv48_l4 hv48_l1 hv48_l2 hv48_p_m_laid hT hP hD hS hl
      have j102 : ∀ (f : Nat → va_E) (H : Heap) (locs : List Loc) (ls : Array Slot) (v102_l3 : Int32) (v102_p_m_laid : Int32), (0 ≤ v48_l4.toInt ∧ v48_l4.toInt ≤ 143) → (0 ≤ p1.toInt ∧ p1.toInt ≤ 9) → (0 ≤ p2.toInt ∧ p2.toInt ≤ 9) → (0 ≤ v102_p_m_laid.toInt ∧ v102_p_m_laid.toInt ≤ 2) → (TYm ad cy fr0 c_text m_taped m_size m_faultKind m_faultPlace m_at m_end m_token m_number m_name c_points c_strands c_units c_told c_ruleFrom c_ruleTo c_code c_eWhat c_eSign m_bank m_rb m_codes m_within m_piled m_unitsInRule v48_p_m_askStrand v48_p_m_askTied m_thoughtClaim m_thoughtNeed m_thoughtAll v48_p_c_roundOf m_acts m_undone v102_p_m_laid m_firstMove m_seens m_time m_waysNow m_fitting f) → (va_P D vwCl (wl ad f) H) → (va_D A (wl ad f)) → (va_S A s.heap H locs) → (lv_has ls 5 [(4, .int v48_l4), (3, .int v102_l3), (0, .ref (ad 148)), (1, .int p1), (2, .int p2)]) → W p l e (rmO 8 185 0 0) s m ([.ref (ad 148), .int p1, .int p2] : List Value).toArray below meth c H locs 0 0 (MQ below (va_Qi (fun (r : Int32) (g : Nat → va_E) => True ∧ (∃ (m_askStrand' : Int32) (m_askTied' : Int32) (c_roundOf' : Nat → Int32) (m_laid' : Int32), TYm ad cy fr0 c_text m_taped m_size m_faultKind m_faultPlace m_at m_end m_token m_number m_name c_points c_strands c_units c_told c_ruleFrom c_ruleTo c_code c_eWhat c_eSign m_bank m_rb m_codes m_within m_piled m_unitsInRule m_askStrand' m_askTied' m_thoughtClaim m_thoughtNeed m_thoughtAll c_roundOf' m_acts m_undone m_laid' m_firstMove m_seens m_time m_waysNow m_fitting g ∧ (0 ≤ m_laid'.toInt ∧ m_laid'.toInt ≤ 2))) (fun g t => PstT D ad g t) A) ([.ref (ad 148), .int p1, .int p2] : List Value).toArray s 0 0 A) (F0 m 102 ls []) := by
        intro f H locs ls v102_l3 v102_p_m_laid hv102_l4 hv102_l1 hv102_l2 hv102_p_m_laid hT hP hD hS hl
        obtain ⟨x1, ex1⟩ : ∃ q : Int32, q = v48_l4 + Int32.ofInt (1) := ⟨_, rfl⟩
        refine lv_iinc (v := x1) (lv' := [(4, .int x1), (3, .int v102_l3), (0, .ref (ad 148)), (1, .int p1), (2, .int p2)]) hx hb dX9_counsels_102 hl (k := 0) rfl ex1.symm (by decide) rfl (fun ls hl => ?_)
        have hx1 := r_inc ex1 (by decide) (by omega) (by omega)
        refine lv_goto (tgt := 48) hx hb dX9_counsels_105 (by decide) ?_
        exact ih48 f H locs ls x1 v102_l3 v48_p_m_askStrand v48_p_m_askTied v48_p_c_roundOf v102_p_m_laid (by omega) (by omega) (by omega) (by omega) (by omega) hT hP hD hS (lv_sub hl [0, 1, 2, 3, 4] rfl)
      have j99 : ∀ (f : Nat → va_E) (H : Heap) (locs : List Loc) (ls : Array Slot) (v99_p_m_laid : Int32), (0 ≤ v48_l4.toInt ∧ v48_l4.toInt ≤ 143) → (0 ≤ p1.toInt ∧ p1.toInt ≤ 9) → (0 ≤ p2.toInt ∧ p2.toInt ≤ 9) → (0 ≤ v99_p_m_laid.toInt ∧ v99_p_m_laid.toInt ≤ 2) → (TYm ad cy fr0 c_text m_taped m_size m_faultKind m_faultPlace m_at m_end m_token m_number m_name c_points c_strands c_units c_told c_ruleFrom c_ruleTo c_code c_eWhat c_eSign m_bank m_rb m_codes m_within m_piled m_unitsInRule v48_p_m_askStrand v48_p_m_askTied m_thoughtClaim m_thoughtNeed m_thoughtAll v48_p_c_roundOf m_acts m_undone v99_p_m_laid m_firstMove m_seens m_time m_waysNow m_fitting f) → (va_P D vwCl (wl ad f) H) → (va_D A (wl ad f)) → (va_S A s.heap H locs) → (lv_has ls 5 [(4, .int v48_l4), (3, .int v48_l3), (0, .ref (ad 148)), (1, .int p1), (2, .int p2)]) → W p l e (rmO 8 185 0 0) s m ([.ref (ad 148), .int p1, .int p2] : List Value).toArray below meth c H locs 0 0 (MQ below (va_Qi (fun (r : Int32) (g : Nat → va_E) => True ∧ (∃ (m_askStrand' : Int32) (m_askTied' : Int32) (c_roundOf' : Nat → Int32) (m_laid' : Int32), TYm ad cy fr0 c_text m_taped m_size m_faultKind m_faultPlace m_at m_end m_token m_number m_name c_points c_strands c_units c_told c_ruleFrom c_ruleTo c_code c_eWhat c_eSign m_bank m_rb m_codes m_within m_piled m_unitsInRule m_askStrand' m_askTied' m_thoughtClaim m_thoughtNeed m_thoughtAll c_roundOf' m_acts m_undone m_laid' m_firstMove m_seens m_time m_waysNow m_fitting g ∧ (0 ≤ m_laid'.toInt ∧ m_laid'.toInt ≤ 2))) (fun g t => PstT D ad g t) A) ([.ref (ad 148), .int p1, .int p2] : List Value).toArray s 0 0 A) (F0 m 99 ls []) := by
        intro f H locs ls v99_p_m_laid hv99_l4 hv99_l1 hv99_l2 hv99_p_m_laid hT hP hD hS hl
        obtain ⟨x2, ex2⟩ : ∃ q : Int32, q = v48_l3 + Int32.ofInt (1) := ⟨_, rfl⟩
        refine lv_iinc (v := x2) (lv' := [(3, .int x2), (4, .int v48_l4), (0, .ref (ad 148)), (1, .int p1), (2, .int p2)]) hx hb dX9_counsels_99 hl (k := 1) rfl ex2.symm (by decide) rfl (fun ls hl => ?_)
        exact j102 f H locs ls x2 v99_p_m_laid (by omega) (by omega) (by omega) (by omega) hT hP hD hS (lv_sub hl [1, 0, 2, 3, 4] rfl)
      refine lv_iload hx hb dX9_counsels_48 (lv_at hl 0 rfl) ?_
      refine lv_sipush (v := 144) hx hb dX9_counsels_50 (by decide) ?_
      have ttl_144 := tl_144
      refine lv_icmp_ge (tgt := 108) hx hb dX9_counsels_53 (by decide) (fun c3 => ?_) (fun c3 => ?_)
      · have kc3 := c_le c3
        refine lv_iload_n hx hb dX9_counsels_108 rfl (lv_at hl 1 rfl) ?_
        exact tI hx hb hr hlk rfl hP hS ⟨trivial, ⟨v48_p_m_askStrand, v48_p_m_askTied, v48_p_c_roundOf, v48_p_m_laid, hT, by omega⟩⟩ dX9_counsels_109
      · have kc3 := c_nle c3
        refine lv_aload_n hx hb dX9_counsels_56 rfl (lv_at hl 2 rfl) ?_
        refine lv_iload hx hb dX9_counsels_57 (lv_at hl 0 rfl) ?_
        obtain ⟨e19, h4, h5, h6, h7, h8, h9, h10, h11, h12, h13, h14, h15, h16, h17, h18⟩ := (show okX9 ad m_taped m_size m_faultKind m_faultPlace m_at m_end m_token m_number m_name m_bank m_rb m_codes m_within m_piled m_unitsInRule v48_p_m_askStrand v48_p_m_askTied m_thoughtClaim m_thoughtNeed m_thoughtAll m_acts m_undone v48_p_m_laid m_firstMove m_seens m_time m_waysNow m_fitting 148 (f 148) from hT.1 148 (by decide))
        refine tVI (As := [.int v48_l4]) (rest := []) (i := 148) ⟨hx, hb, hml, hown, hts⟩ hK hE hP hD hS hA hAB (s_X9_isRest_0 l B0 adK adV D cy ad fr0 c_text m_taped m_size m_faultKind m_faultPlace m_at m_end m_token m_number m_name c_points c_strands c_units c_told c_ruleFrom c_ruleTo c_code c_eWhat c_eSign m_bank m_rb m_codes m_within m_piled m_unitsInRule v48_p_m_askStrand v48_p_m_askTied m_thoughtClaim m_thoughtNeed m_thoughtAll v48_p_c_roundOf m_acts m_undone v48_p_m_laid m_firstMove m_seens m_time m_waysNow m_fitting f hT v48_l4 (by omega) _) (cwV 1 hts gX9_counsels_X9_isRest rfl rfl rfl (by decide +kernel) ⟨Nat.le_of_ble_eq_true rfl, Nat.le_of_ble_eq_true rfl⟩) (by decide) 9 e19 rfl rfl hl.1 rfl (Nat.le_of_ble_eq_true rfl) dX9_counsels_59 ⟨Nat.le_of_ble_eq_true rfl, Nat.le_of_ble_eq_true rfl⟩ (fun r g H locs hw hP hD hS => ?_)
        obtain ⟨hrs, rfl⟩ := hw
        obtain ⟨x20, rfl⟩ : ∃ q, q = r := ⟨_, rfl⟩
        rcases hrs with rfl | rfl
        · refine lv_if_ne (tgt := 68) hx hb dX9_counsels_62 (by decide) (fun _ => ?_) (fun c => absurd c (by decide))
          refine lv_iload_n hx hb dX9_counsels_68 rfl (lv_at hl 1 rfl) ?_
          have ttl_0 := tl_0
          refine lv_if_ne (tgt := 99) hx hb dX9_counsels_69 (by decide) (fun c21 => ?_) (fun c21 => ?_)
          · have kc21 := c_ne c21
            exact j99 f H locs ls v48_p_m_laid (by omega) (by omega) (by omega) (by omega) hT hP hD hS (lv_sub hl [0, 1, 2, 3, 4] rfl)
          · have kc21 := c_eq c21
            refine lv_aload_n hx hb dX9_counsels_72 rfl (lv_at hl 2 rfl) ?_
            refine va_get (D := D) (cl := vwCl) (ci := 9) (v := .ref (ad 174)) (C := RX9) (T := TX9) (N := 64) hx hb hts in_X9_counsels_X9 hown hK hP 148 (wl_at (by decide) e19) rfl 47 (by decide) (hts (.fieldLink RX9 97 "EightReasonsModel" "laidRow" "[I") (List.mem_of_getElem? (i := 3) rfl)) (fun _ h9 => h9) rfl dX9_counsels_73 ?_
            refine lv_iconst (v := 0) hx hb dX9_counsels_76 (by decide) ?_
            refine lv_iload hx hb dX9_counsels_77 (lv_at hl 0 rfl) ?_
            refine lv_bipush (v := 12) hx hb dX9_counsels_79 (by decide) ?_
            refine lv_idiv hx hb dX9_counsels_81 (by decide) ?_
            refine lv_topi (fun x22 ex22 => ?_)
            have hx22 := r_div ex22 tl_12 (by omega) (by decide)
            obtain ⟨g24, e23⟩ := (show okI cy 10 (f 174) from hT.1 174 (by decide))
            refine va_iast hx hb hK hP hD hS 174 0 (wl_at (by decide) e23) rfl (vin (by decide)) dX9_counsels_82 (fun H locs hP hD hS => ?_)
            obtain ⟨f, hT, hP, hD, e25, hj26⟩ := stU (by decide) (TYm.up hT (by decide) (show OKm ad cy c_text m_taped m_size m_faultKind m_faultPlace m_at m_end m_token m_number m_name c_points c_strands c_units c_told c_ruleFrom c_ruleTo c_code c_eWhat c_eSign m_bank m_rb m_codes m_within m_piled m_unitsInRule v48_p_m_askStrand v48_p_m_askTied m_thoughtClaim m_thoughtNeed m_thoughtAll v48_p_c_roundOf m_acts m_undone v48_p_m_laid m_firstMove m_seens m_time m_waysNow m_fitting 174 _ from (show okI cy 10 _ from ⟨_, rfl⟩))) hP hD
            have e27 := (hj26 148 (by decide)).trans e19
            refine lv_aload_n hx hb dX9_counsels_83 rfl (lv_at hl 2 rfl) ?_
            refine va_get (D := D) (cl := vwCl) (ci := 9) (v := .ref (ad 174)) (C := RX9) (T := TX9) (N := 64) hx hb hts in_X9_counsels_X9 hown hK hP 148 (wl_at (by decide) e27) rfl 47 (by decide) (hts (.fieldLink RX9 97 "EightReasonsModel" "laidRow" "[I") (List.mem_of_getElem? (i := 3) rfl)) (fun _ h9 => h9) rfl dX9_counsels_84 ?_
            refine lv_iconst (v := 1) hx hb dX9_counsels_87 (by decide) ?_
            refine lv_iload hx hb dX9_counsels_88 (lv_at hl 0 rfl) ?_
            refine lv_bipush (v := 12) hx hb dX9_counsels_90 (by decide) ?_
            refine lv_irem hx hb dX9_counsels_92 (by decide) ?_
            refine lv_topi (fun x28 ex28 => ?_)
            have hx28 := r_rem ex28 tl_12 (by omega) (by decide)
            obtain ⟨g30, e29⟩ := (show okI cy 10 (f 174) from hT.1 174 (by decide))
            have ttl_1 := tl_1
            refine va_iast hx hb hK hP hD hS 174 0 (wl_at (by decide) e29) rfl (vin (by decide)) dX9_counsels_93 (fun H locs hP hD hS => ?_)
            obtain ⟨f, hT, hP, hD, e31, hj32⟩ := stU (by decide) (TYm.up hT (by decide) (show OKm ad cy c_text m_taped m_size m_faultKind m_faultPlace m_at m_end m_token m_number m_name c_points c_strands c_units c_told c_ruleFrom c_ruleTo c_code c_eWhat c_eSign m_bank m_rb m_codes m_within m_piled m_unitsInRule v48_p_m_askStrand v48_p_m_askTied m_thoughtClaim m_thoughtNeed m_thoughtAll v48_p_c_roundOf m_acts m_undone v48_p_m_laid m_firstMove m_seens m_time m_waysNow m_fitting 174 _ from (show okI cy 10 _ from ⟨_, rfl⟩))) hP hD
            have e33 := (hj32 148 (by decide)).trans e27
            refine lv_aload_n hx hb dX9_counsels_94 rfl (lv_at hl 2 rfl) ?_
            refine lv_iconst (v := 2) hx hb dX9_counsels_95 (by decide) ?_
            refine va_put (D := D) (cl := vwCl) (ci := 9) (v := .int 2) (ty := tyX9 48) (C := RX9) (T := TX9) (N := 64) hx hb hts in_X9_counsels_X9 tyX9 tyX9_ok nmX9 hown hK hP hD hS 148 (wl_at (by decide) e33) rfl 48 (by decide) (hts (.fieldLink RX9 377 "EightReasonsModel" "laid" "I") (List.mem_of_getElem? (i := 1) rfl)) (fun _ h9 => h9) rfl (tyX9_ok 48 (by decide)) rfl rfl (Nat.le_of_ble_eq_true rfl) dX9_counsels_96 (fun H locs hP hD hS => ?_)
            have ttl_2 := tl_2
            obtain ⟨f, hT, hP, hD, e34, hj35⟩ := stU (by decide) (TYm.p148 hT (show OKm ad cy c_text m_taped m_size m_faultKind m_faultPlace m_at m_end m_token m_number m_name c_points c_strands c_units c_told c_ruleFrom c_ruleTo c_code c_eWhat c_eSign m_bank m_rb m_codes m_within m_piled m_unitsInRule v48_p_m_askStrand v48_p_m_askTied m_thoughtClaim m_thoughtNeed m_thoughtAll v48_p_c_roundOf m_acts m_undone 2 m_firstMove m_seens m_time m_waysNow m_fitting 148 _ from (show okX9 ad m_taped m_size m_faultKind m_faultPlace m_at m_end m_token m_number m_name m_bank m_rb m_codes m_within m_piled m_unitsInRule v48_p_m_askStrand v48_p_m_askTied m_thoughtClaim m_thoughtNeed m_thoughtAll m_acts m_undone 2 m_firstMove m_seens m_time m_waysNow m_fitting 148 _ from ⟨rfl, by omega, by omega, by omega, by omega, by omega, by omega, by omega, by omega, by omega, by omega, by omega, by omega, by omega, by omega, by omega⟩))) hP hD
            exact j99 f H locs ls (2 : Int32) (by omega) (by omega) (by omega) (by omega) hT hP hD hS (lv_sub hl [0, 1, 2, 3, 4] rfl)
        · refine lv_if_ne (tgt := 68) hx hb dX9_counsels_62 (by decide) (fun c => absurd (by decide) c) (fun _ => ?_)
          refine lv_goto (tgt := 102) hx hb dX9_counsels_65 (by decide) ?_
          exact j102 f H locs ls v48_l3 v48_p_m_laid (by omega) (by omega) (by omega) (by omega) hT hP hD hS (lv_sub hl [0, 1, 2, 3, 4] rfl)
  refine lv_aload_n hx hb dX9_counsels_0 rfl (lv_at hl 0 rfl) ?_
  refine lv_iconst (v := 0) hx hb dX9_counsels_1 (by decide) ?_
  obtain ⟨e51, h36, h37, h38, h39, h40, h41, h42, h43, h44, h45, h46, h47, h48, h49, h50⟩ := (show okX9 ad m_taped m_size m_faultKind m_faultPlace m_at m_end m_token m_number m_name m_bank m_rb m_codes m_within m_piled m_unitsInRule m_askStrand m_askTied m_thoughtClaim m_thoughtNeed m_thoughtAll m_acts m_undone m_laid m_firstMove m_seens m_time m_waysNow m_fitting 148 (f 148) from hT.1 148 (by decide))
  refine va_put (D := D) (cl := vwCl) (ci := 9) (v := .int 0) (ty := tyX9 48) (C := RX9) (T := TX9) (N := 64) hx hb hts in_X9_counsels_X9 tyX9 tyX9_ok nmX9 hown hK hP hD hS 148 (wl_at (by decide) e51) rfl 48 (by decide) (hts (.fieldLink RX9 377 "EightReasonsModel" "laid" "I") (List.mem_of_getElem? (i := 1) rfl)) (fun _ h9 => h9) rfl (tyX9_ok 48 (by decide)) rfl rfl (Nat.le_of_ble_eq_true rfl) dX9_counsels_2 (fun H locs hP hD hS => ?_)
  have ttl_0 := tl_0
  obtain ⟨f, hT, hP, hD, e52, hj53⟩ := stU (by decide) (TYm.p148 hT (show OKm ad cy c_text m_taped m_size m_faultKind m_faultPlace m_at m_end m_token m_number m_name c_points c_strands c_units c_told c_ruleFrom c_ruleTo c_code c_eWhat c_eSign m_bank m_rb m_codes m_within m_piled m_unitsInRule m_askStrand m_askTied m_thoughtClaim m_thoughtNeed m_thoughtAll c_roundOf m_acts m_undone 0 m_firstMove m_seens m_time m_waysNow m_fitting 148 _ from (show okX9 ad m_taped m_size m_faultKind m_faultPlace m_at m_end m_token m_number m_name m_bank m_rb m_codes m_within m_piled m_unitsInRule m_askStrand m_askTied m_thoughtClaim m_thoughtNeed m_thoughtAll m_acts m_undone 0 m_firstMove m_seens m_time m_waysNow m_fitting 148 _ from ⟨rfl, by omega, by omega, by omega, by omega, by omega, by omega, by omega, by omega, by omega, by omega, by omega, by omega, by omega, by omega, by omega⟩))) hP hD
  refine lv_aload_n hx hb dX9_counsels_5 rfl (lv_at hl 0 rfl) ?_
  refine lv_iload_n hx hb dX9_counsels_6 rfl (lv_at hl 1 rfl) ?_
  refine tVI (As := [.int p1]) (rest := []) (i := 148) ⟨hx, hb, hml, hown, hts⟩ hK hE hP hD hS hA hAB (s_X9_isClaim_0 l B0 adK adV D cy ad fr0 c_text m_taped m_size m_faultKind m_faultPlace m_at m_end m_token m_number m_name c_points c_strands c_units c_told c_ruleFrom c_ruleTo c_code c_eWhat c_eSign m_bank m_rb m_codes m_within m_piled m_unitsInRule m_askStrand m_askTied m_thoughtClaim m_thoughtNeed m_thoughtAll c_roundOf m_acts m_undone (0 : Int32) m_firstMove m_seens m_time m_waysNow m_fitting f hT p1 _) (cwV 1 hts gX9_counsels_X9_isClaim rfl rfl rfl (by decide +kernel) ⟨Nat.le_of_ble_eq_true rfl, Nat.le_of_ble_eq_true rfl⟩) (by decide) 9 e52 rfl rfl hl.1 rfl (Nat.le_of_ble_eq_true rfl) dX9_counsels_7 ⟨Nat.le_of_ble_eq_true rfl, Nat.le_of_ble_eq_true rfl⟩ (fun r g H locs hw hP hD hS => ?_)
  obtain ⟨hrs, rfl⟩ := hw
  obtain ⟨x54, rfl⟩ : ∃ q, q = r := ⟨_, rfl⟩
  rcases hrs with ⟨rfl, h55, h56⟩ | rfl
  · refine lv_if_eq (tgt := 35) hx hb dX9_counsels_10 (by decide) (fun c => absurd c (by decide)) (fun _ => ?_)
    refine lv_aload_n hx hb dX9_counsels_13 rfl (lv_at hl 0 rfl) ?_
    refine lv_iload_n hx hb dX9_counsels_14 rfl (lv_at hl 2 rfl) ?_
    refine tVI (As := [.int p2]) (rest := []) (i := 148) ⟨hx, hb, hml, hown, hts⟩ hK hE hP hD hS hA hAB (s_X9_isClaim_0 l B0 adK adV D cy ad fr0 c_text m_taped m_size m_faultKind m_faultPlace m_at m_end m_token m_number m_name c_points c_strands c_units c_told c_ruleFrom c_ruleTo c_code c_eWhat c_eSign m_bank m_rb m_codes m_within m_piled m_unitsInRule m_askStrand m_askTied m_thoughtClaim m_thoughtNeed m_thoughtAll c_roundOf m_acts m_undone (0 : Int32) m_firstMove m_seens m_time m_waysNow m_fitting f hT p2 _) (cwV 1 hts gX9_counsels_X9_isClaim rfl rfl rfl (by decide +kernel) ⟨Nat.le_of_ble_eq_true rfl, Nat.le_of_ble_eq_true rfl⟩) (by decide) 9 e52 rfl rfl hl.1 rfl (Nat.le_of_ble_eq_true rfl) dX9_counsels_15 ⟨Nat.le_of_ble_eq_true rfl, Nat.le_of_ble_eq_true rfl⟩ (fun r g H locs hw hP hD hS => ?_)
    obtain ⟨hrs, rfl⟩ := hw
    obtain ⟨x57, rfl⟩ : ∃ q, q = r := ⟨_, rfl⟩
    rcases hrs with ⟨rfl, h58, h59⟩ | rfl
    · refine lv_if_eq (tgt := 35) hx hb dX9_counsels_18 (by decide) (fun c => absurd c (by decide)) (fun _ => ?_)
      refine lv_iload_n hx hb dX9_counsels_21 rfl (lv_at hl 1 rfl) ?_
      refine lv_iload_n hx hb dX9_counsels_22 rfl (lv_at hl 2 rfl) ?_
      refine lv_icmp_eq (tgt := 35) hx hb dX9_counsels_23 (by decide) (fun c60 => ?_) (fun c60 => ?_)
      · have kc60 := c_eq c60
        refine lv_iconst (v := (-1)) hx hb dX9_counsels_35 (by decide) ?_
        have ttl_m1 := tl_m1
        exact tI hx hb hr hlk rfl hP hS ⟨trivial, ⟨m_askStrand, m_askTied, c_roundOf, (0 : Int32), hT, by omega⟩⟩ dX9_counsels_36
      · have kc60 := c_ne c60
        refine lv_aload_n hx hb dX9_counsels_26 rfl (lv_at hl 0 rfl) ?_
        refine va_get (D := D) (cl := vwCl) (ci := 9) (v := .ref (ad 169)) (C := RX9) (T := TX9) (N := 64) hx hb hts in_X9_counsels_X9 hown hK hP 148 (wl_at (by decide) e52) rfl 37 (by decide) (hts (.fieldLink RX9 76 "EightReasonsModel" "all" "[I") (List.mem_of_getElem? (i := 2) rfl)) (fun _ h9 => h9) rfl dX9_counsels_27 ?_
        refine lv_iconst (v := 1) hx hb dX9_counsels_30 (by decide) ?_
        obtain ⟨g63, e61, h62⟩ := (show okIr cy 16 (0) (4095) 16 1 (f 169) from hT.1 169 (by decide))
        have ttl_1 := tl_1
        refine va_iald hx hb hK hP 169 0 (wl_at (by decide) e61) rfl (vin (by decide)) dX9_counsels_31 ?_
        refine lv_topi (fun x64 ex64 => ?_)
        have hx64 := r_el (h62 _ (by decide)) ex64
        refine lv_if_ne (tgt := 37) hx hb dX9_counsels_32 (by decide) (fun c65 => ?_) (fun c65 => ?_)
        · have kc65 := c_ne c65
          refine lv_aload_n hx hb dX9_counsels_37 rfl (lv_at hl 0 rfl) ?_
          refine lv_iload_n hx hb dX9_counsels_38 rfl (lv_at hl 1 rfl) ?_
          refine lv_iload_n hx hb dX9_counsels_39 rfl (lv_at hl 2 rfl) ?_
          refine tVV (As := [.int p1, .int p2]) (rest := []) (i := 148) ⟨hx, hb, hml, hown, hts⟩ hK hE hP hD hS hA hAB (s_X9_layGains_0 l B0 adK adV D cy ad fr0 c_text m_taped m_size m_faultKind m_faultPlace m_at m_end m_token m_number m_name c_points c_strands c_units c_told c_ruleFrom c_ruleTo c_code c_eWhat c_eSign m_bank m_rb m_codes m_within m_piled m_unitsInRule m_askStrand m_askTied m_thoughtClaim m_thoughtNeed m_thoughtAll c_roundOf m_acts m_undone (0 : Int32) m_firstMove m_seens m_time m_waysNow m_fitting f hT p1 (by omega) p2 (by omega) hCV _) (cwV 2 hts gX9_counsels_X9_layGains rfl rfl rfl (by decide +kernel) ⟨Nat.le_of_ble_eq_true rfl, Nat.le_of_ble_eq_true rfl⟩) (by decide) 9 e52 rfl rfl hl.1 rfl (Nat.le_of_ble_eq_true rfl) dX9_counsels_40 ⟨Nat.le_of_ble_eq_true rfl, Nat.le_of_ble_eq_true rfl⟩ (fun f H locs hw hP hD hS => ?_)
          obtain ⟨hrs, x66, x67, y68, hT⟩ := hw
          refine lv_iconst (v := 0) hx hb dX9_counsels_43 (by decide) ?_
          refine lv_istore_n (lv' := [(3, .int 0), (0, .ref (ad 148)), (1, .int p1), (2, .int p2)]) hx hb dX9_counsels_44 rfl hl (by decide) rfl (fun ls hl => ?_)
          refine lv_iconst (v := 0) hx hb dX9_counsels_45 (by decide) ?_
          refine lv_istore (lv' := [(4, .int 0), (3, .int 0), (0, .ref (ad 148)), (1, .int p1), (2, .int p2)]) hx hb dX9_counsels_46 hl (by decide) rfl (fun ls hl => ?_)
          exact j48 (Int.toNat (145 - (0 : Int32).toInt)) f H locs ls (0 : Int32) (0 : Int32) x66 x67 y68 (0 : Int32) (by omega) (by omega) (by omega) (by omega) (by omega) hT hP hD hS (lv_sub hl [0, 1, 2, 3, 4] rfl)
        · have kc65 := c_eq c65
          refine lv_iconst (v := (-1)) hx hb dX9_counsels_35 (by decide) ?_
          have ttl_m1 := tl_m1
          exact tI hx hb hr hlk rfl hP hS ⟨trivial, ⟨m_askStrand, m_askTied, c_roundOf, (0 : Int32), hT, by omega⟩⟩ dX9_counsels_36
    · refine lv_if_eq (tgt := 35) hx hb dX9_counsels_18 (by decide) (fun _ => ?_) (fun c => absurd (by decide) c)
      refine lv_iconst (v := (-1)) hx hb dX9_counsels_35 (by decide) ?_
      have ttl_m1 := tl_m1
      exact tI hx hb hr hlk rfl hP hS ⟨trivial, ⟨m_askStrand, m_askTied, c_roundOf, (0 : Int32), hT, by omega⟩⟩ dX9_counsels_36
  · refine lv_if_eq (tgt := 35) hx hb dX9_counsels_10 (by decide) (fun _ => ?_) (fun c => absurd (by decide) c)
    refine lv_iconst (v := (-1)) hx hb dX9_counsels_35 (by decide) ?_
    have ttl_m1 := tl_m1
    exact tI hx hb hr hlk rfl hP hS ⟨trivial, ⟨m_askStrand, m_askTied, c_roundOf, (0 : Int32), hT, by omega⟩⟩ dX9_counsels_36
set_option maxHeartbeats 4000000 in
set_option maxRecDepth 100000 in
theorem s_X9_path_0 (l : Launch) (B0 : Nat) (adK adV : Nat → Nat) (D : va_G) (cy : Nat → ClassId) (ad : Nat → Nat) (fr0 : Nat → va_E) (c_text : Nat → Int32) (m_taped : Int32) (m_size : Int32) (m_faultKind : Int32) (m_faultPlace : Int32) (m_at : Int32) (m_end : Int32) (m_token : Int32) (m_number : Int32) (m_name : Int64) (c_points : Nat → Int32) (c_strands : Nat → Int32) (c_units : Nat → Int32) (c_told : Nat → Int32) (c_ruleFrom : Nat → Int32) (c_ruleTo : Nat → Int32) (c_code : Nat → Int32) (c_eWhat : Nat → Int32) (c_eSign : Nat → Int32) (m_bank : Int32) (m_rb : Int32) (m_codes : Int32) (m_within : Int32) (m_piled : Int32) (m_unitsInRule : Int32) (m_askStrand : Int32) (m_askTied : Int32) (m_thoughtClaim : Int32) (m_thoughtNeed : Int32) (m_thoughtAll : Int32) (c_roundOf : Nat → Int32) (m_acts : Int32) (m_undone : Int32) (m_laid : Int32) (m_firstMove : Int32) (m_seens : Int32) (m_time : Int32) (m_waysNow : Int32) (m_fitting : Int32) (f : Nat → va_E) (hT : TYm ad cy fr0 c_text m_taped m_size m_faultKind m_faultPlace m_at m_end m_token m_number m_name c_points c_strands c_units c_told c_ruleFrom c_ruleTo c_code c_eWhat c_eSign m_bank m_rb m_codes m_within m_piled m_unitsInRule m_askStrand m_askTied m_thoughtClaim m_thoughtNeed m_thoughtAll c_roundOf m_acts m_undone m_laid m_firstMove m_seens m_time m_waysNow m_fitting f) (p1 : Int32) (p2 : Int32) (sz : Nat) : TtI l yX9_path wsX9_path 3 64 [.ref (ad 148), .int p1, .int p2] B0 adK adV D cy ad f sz (fun (r : Int32) (g : Nat → va_E) => (-1 ≤ r.toInt ∧ r.toInt ≤ 9) ∧ (f = g)) := by
  refine TtI.of (cc := cX9_path) (maxL := 5) (ty := .int) (own := RX9) (by decide) rfl (Nat.le_of_ble_eq_true rfl) rfl ?_
  intro p e s m below meth c A ls hx hb hr hml hts hown hlk hK hE hP hD hS hA hAB hl
  have hl : lv_has ls 5 [(0, .ref (ad 148)), (1, .int p1), (2, .int p2)] := hl
  refine st0 (fun H locs hP hS => ?_) hP hS
  have j25 : ∀ (N : Nat) (H : Heap) (locs : List Loc) (ls : Array Slot) (v25_l4 : Int32) (v25_l3 : Int32), (11 - v25_l4.toInt ≤ (N : Int)) → (0 ≤ v25_l4.toInt ∧ v25_l4.toInt ≤ 10) → (0 ≤ v25_l3.toInt ∧ v25_l3.toInt ≤ 4095) → (0 ≤ p1.toInt ∧ p1.toInt ≤ 9) → (0 ≤ p2.toInt ∧ p2.toInt ≤ 9) → (va_P D vwCl (wl ad f) H) → (va_D A (wl ad f)) → (va_S A s.heap H locs) → (lv_has ls 5 [(4, .int v25_l4), (3, .int v25_l3), (0, .ref (ad 148)), (1, .int p1), (2, .int p2)]) → W p l e (rmO 3 64 0 0) s m ([.ref (ad 148), .int p1, .int p2] : List Value).toArray below meth c H locs 0 0 (MQ below (va_Qi (fun (r : Int32) (g : Nat → va_E) => (-1 ≤ r.toInt ∧ r.toInt ≤ 9) ∧ (f = g)) (fun g t => PstT D ad g t) A) ([.ref (ad 148), .int p1, .int p2] : List Value).toArray s 0 0 A) (F0 m 25 ls []) := by
    intro N
    induction N with
    | zero => intro H locs ls v25_l4 v25_l3 hN hv25_l4 hv25_l3 hv25_l1 hv25_l2 hP hD hS hl; exact absurd hN (by omega)
    | succ N ih25 =>
      intro H locs ls v25_l4 v25_l3 hN hv25_l4 hv25_l3 hv25_l1 hv25_l2 hP hD hS hl
      refine lv_iload hx hb dX9_path_25 (lv_at hl 0 rfl) ?_
      refine lv_aload_n hx hb dX9_path_27 rfl (lv_at hl 2 rfl) ?_
      obtain ⟨e16, h1, h2, h3, h4, h5, h6, h7, h8, h9, h10, h11, h12, h13, h14, h15⟩ := (show okX9 ad m_taped m_size m_faultKind m_faultPlace m_at m_end m_token m_number m_name m_bank m_rb m_codes m_within m_piled m_unitsInRule m_askStrand m_askTied m_thoughtClaim m_thoughtNeed m_thoughtAll m_acts m_undone m_laid m_firstMove m_seens m_time m_waysNow m_fitting 148 (f 148) from hT.1 148 (by decide))
      refine tVI (As := []) (rest := [.int v25_l4]) (i := 148) ⟨hx, hb, hml, hown, hts⟩ hK hE hP hD hS hA hAB (s_X9_many_0 l B0 adK adV D cy ad fr0 c_text m_taped m_size m_faultKind m_faultPlace m_at m_end m_token m_number m_name c_points c_strands c_units c_told c_ruleFrom c_ruleTo c_code c_eWhat c_eSign m_bank m_rb m_codes m_within m_piled m_unitsInRule m_askStrand m_askTied m_thoughtClaim m_thoughtNeed m_thoughtAll c_roundOf m_acts m_undone m_laid m_firstMove m_seens m_time m_waysNow m_fitting f hT _) (cwV 0 hts gX9_path_X9_many rfl rfl rfl (by decide +kernel) ⟨Nat.le_of_ble_eq_true rfl, Nat.le_of_ble_eq_true rfl⟩) (by decide) 9 e16 rfl rfl hl.1 rfl (Nat.le_of_ble_eq_true rfl) dX9_path_28 ⟨Nat.le_of_ble_eq_true rfl, Nat.le_of_ble_eq_true rfl⟩ (fun r g H locs hw hP hD hS => ?_)
      obtain ⟨hrs, rfl⟩ := hw
      obtain ⟨x17, rfl⟩ : ∃ q, q = r := ⟨_, rfl⟩
      have h18 := hrs
      refine lv_icmp_ge (tgt := 57) hx hb dX9_path_31 (by decide) (fun c19 => ?_) (fun c19 => ?_)
      · have kc19 := c_le c19
        refine lv_iconst (v := (-1)) hx hb dX9_path_57 (by decide) ?_
        have ttl_m1 := tl_m1
        exact tI hx hb hr hlk rfl hP hS ⟨(by omega), rfl⟩ dX9_path_58
      · have kc19 := c_nle c19
        refine lv_iload_n hx hb dX9_path_34 rfl (lv_at hl 1 rfl) ?_
        refine lv_iload_n hx hb dX9_path_35 rfl (lv_at hl 3 rfl) ?_
        refine tSI (As := [.int v25_l3, .int p1]) (rest := []) ⟨hx, hb, hml, hown, hts⟩ hK hE hP hD hS hA hAB (s_X9_bit_0 l B0 adK adV D cy ad f v25_l3 p1 (by omega) _) (va_cwS 2 hts gX9_path_X9_bit rfl rfl rfl (by decide +kernel) ⟨Nat.le_of_ble_eq_true rfl, Nat.le_of_ble_eq_true rfl⟩) rfl hl.1 rfl (Nat.le_of_ble_eq_true rfl) dX9_path_36 ⟨Nat.le_of_ble_eq_true rfl, Nat.le_of_ble_eq_true rfl⟩ (fun r g H locs hw hP hD hS => ?_)
        obtain ⟨hrs, rfl⟩ := hw
        obtain ⟨x20, rfl⟩ : ∃ q, q = r := ⟨_, rfl⟩
        rcases hrs with ⟨rfl, h21⟩ | ⟨rfl, h22⟩
        · refine lv_if_eq (tgt := 45) hx hb dX9_path_39 (by decide) (fun c => absurd c (by decide)) (fun _ => ?_)
          refine lv_iload hx hb dX9_path_42 (lv_at hl 0 rfl) ?_
          exact tI hx hb hr hlk rfl hP hS ⟨(by omega), rfl⟩ dX9_path_44
        · refine lv_if_eq (tgt := 45) hx hb dX9_path_39 (by decide) (fun _ => ?_) (fun c => absurd (by decide) c)
          refine lv_aload_n hx hb dX9_path_45 rfl (lv_at hl 2 rfl) ?_
          refine lv_iload_n hx hb dX9_path_46 rfl (lv_at hl 1 rfl) ?_
          refine tVI (As := [.int v25_l3]) (rest := []) (i := 148) ⟨hx, hb, hml, hown, hts⟩ hK hE hP hD hS hA hAB (s_X9_behind_0 l B0 adK adV D cy ad fr0 c_text m_taped m_size m_faultKind m_faultPlace m_at m_end m_token m_number m_name c_points c_strands c_units c_told c_ruleFrom c_ruleTo c_code c_eWhat c_eSign m_bank m_rb m_codes m_within m_piled m_unitsInRule m_askStrand m_askTied m_thoughtClaim m_thoughtNeed m_thoughtAll c_roundOf m_acts m_undone m_laid m_firstMove m_seens m_time m_waysNow m_fitting f hT v25_l3 (by omega) _) (cwV 1 hts gX9_path_X9_behind rfl rfl rfl (by decide +kernel) ⟨Nat.le_of_ble_eq_true rfl, Nat.le_of_ble_eq_true rfl⟩) (by decide) 9 e16 rfl rfl hl.1 rfl (Nat.le_of_ble_eq_true rfl) dX9_path_47 ⟨Nat.le_of_ble_eq_true rfl, Nat.le_of_ble_eq_true rfl⟩ (fun r g H locs hw hP hD hS => ?_)
          obtain ⟨hrs, rfl⟩ := hw
          obtain ⟨x23, rfl⟩ : ∃ q, q = r := ⟨_, rfl⟩
          have h24 := hrs
          refine lv_istore_n (lv' := [(3, .int x23), (4, .int v25_l4), (0, .ref (ad 148)), (1, .int p1), (2, .int p2)]) hx hb dX9_path_50 rfl hl (by decide) rfl (fun ls hl => ?_)
          obtain ⟨x25, ex25⟩ : ∃ q : Int32, q = v25_l4 + Int32.ofInt (1) := ⟨_, rfl⟩
          refine lv_iinc (v := x25) (lv' := [(4, .int x25), (3, .int x23), (0, .ref (ad 148)), (1, .int p1), (2, .int p2)]) hx hb dX9_path_51 hl (k := 1) rfl ex25.symm (by decide) rfl (fun ls hl => ?_)
          have hx25 := r_inc ex25 (by decide) (by omega) (by omega)
          refine lv_goto (tgt := 25) hx hb dX9_path_54 (by decide) ?_
          exact ih25 H locs ls x25 x23 (by omega) (by omega) (by omega) (by omega) (by omega) hP hD hS (lv_sub hl [0, 1, 2, 3, 4] rfl)
  refine lv_aload_n hx hb dX9_path_0 rfl (lv_at hl 0 rfl) ?_
  refine lv_iload_n hx hb dX9_path_1 rfl (lv_at hl 1 rfl) ?_
  obtain ⟨e41, h26, h27, h28, h29, h30, h31, h32, h33, h34, h35, h36, h37, h38, h39, h40⟩ := (show okX9 ad m_taped m_size m_faultKind m_faultPlace m_at m_end m_token m_number m_name m_bank m_rb m_codes m_within m_piled m_unitsInRule m_askStrand m_askTied m_thoughtClaim m_thoughtNeed m_thoughtAll m_acts m_undone m_laid m_firstMove m_seens m_time m_waysNow m_fitting 148 (f 148) from hT.1 148 (by decide))
  refine tVI (As := [.int p1]) (rest := []) (i := 148) ⟨hx, hb, hml, hown, hts⟩ hK hE hP hD hS hA hAB (s_X9_isPoint_0 l B0 adK adV D cy ad fr0 c_text m_taped m_size m_faultKind m_faultPlace m_at m_end m_token m_number m_name c_points c_strands c_units c_told c_ruleFrom c_ruleTo c_code c_eWhat c_eSign m_bank m_rb m_codes m_within m_piled m_unitsInRule m_askStrand m_askTied m_thoughtClaim m_thoughtNeed m_thoughtAll c_roundOf m_acts m_undone m_laid m_firstMove m_seens m_time m_waysNow m_fitting f hT p1 _) (cwV 1 hts gX9_path_X9_isPoint rfl rfl rfl (by decide +kernel) ⟨Nat.le_of_ble_eq_true rfl, Nat.le_of_ble_eq_true rfl⟩) (by decide) 9 e41 rfl rfl hl.1 rfl (Nat.le_of_ble_eq_true rfl) dX9_path_2 ⟨Nat.le_of_ble_eq_true rfl, Nat.le_of_ble_eq_true rfl⟩ (fun r g H locs hw hP hD hS => ?_)
  obtain ⟨hrs, rfl⟩ := hw
  obtain ⟨x42, rfl⟩ : ∃ q, q = r := ⟨_, rfl⟩
  rcases hrs with ⟨rfl, h43, h44⟩ | rfl
  · refine lv_if_eq (tgt := 16) hx hb dX9_path_5 (by decide) (fun c => absurd c (by decide)) (fun _ => ?_)
    refine lv_aload_n hx hb dX9_path_8 rfl (lv_at hl 0 rfl) ?_
    refine lv_iload_n hx hb dX9_path_9 rfl (lv_at hl 2 rfl) ?_
    refine tVI (As := [.int p2]) (rest := []) (i := 148) ⟨hx, hb, hml, hown, hts⟩ hK hE hP hD hS hA hAB (s_X9_isClaim_0 l B0 adK adV D cy ad fr0 c_text m_taped m_size m_faultKind m_faultPlace m_at m_end m_token m_number m_name c_points c_strands c_units c_told c_ruleFrom c_ruleTo c_code c_eWhat c_eSign m_bank m_rb m_codes m_within m_piled m_unitsInRule m_askStrand m_askTied m_thoughtClaim m_thoughtNeed m_thoughtAll c_roundOf m_acts m_undone m_laid m_firstMove m_seens m_time m_waysNow m_fitting f hT p2 _) (cwV 1 hts gX9_path_X9_isClaim rfl rfl rfl (by decide +kernel) ⟨Nat.le_of_ble_eq_true rfl, Nat.le_of_ble_eq_true rfl⟩) (by decide) 9 e41 rfl rfl hl.1 rfl (Nat.le_of_ble_eq_true rfl) dX9_path_10 ⟨Nat.le_of_ble_eq_true rfl, Nat.le_of_ble_eq_true rfl⟩ (fun r g H locs hw hP hD hS => ?_)
    obtain ⟨hrs, rfl⟩ := hw
    obtain ⟨x45, rfl⟩ : ∃ q, q = r := ⟨_, rfl⟩
    rcases hrs with ⟨rfl, h46, h47⟩ | rfl
    · refine lv_if_ne (tgt := 18) hx hb dX9_path_13 (by decide) (fun _ => ?_) (fun c => absurd c (by decide))
      refine lv_iconst (v := 1) hx hb dX9_path_18 (by decide) ?_
      refine lv_iload_n hx hb dX9_path_19 rfl (lv_at hl 2 rfl) ?_
      refine lv_ishl hx hb dX9_path_20 ?_
      refine lv_topi (fun x48 ex48 => ?_)
      have hx48 := r_shl (K := 9) (M := 512) ex48 (by decide) (by decide) (by omega) (by omega)
      refine lv_istore_n (lv' := [(3, .int x48), (0, .ref (ad 148)), (1, .int p1), (2, .int p2)]) hx hb dX9_path_21 rfl hl (by decide) rfl (fun ls hl => ?_)
      refine lv_iconst (v := 0) hx hb dX9_path_22 (by decide) ?_
      refine lv_istore (lv' := [(4, .int 0), (3, .int x48), (0, .ref (ad 148)), (1, .int p1), (2, .int p2)]) hx hb dX9_path_23 hl (by decide) rfl (fun ls hl => ?_)
      have ttl_0 := tl_0
      exact j25 (Int.toNat (11 - (0 : Int32).toInt)) H locs ls (0 : Int32) x48 (by omega) (by omega) (by omega) (by omega) (by omega) hP hD hS (lv_sub hl [0, 1, 2, 3, 4] rfl)
    · refine lv_if_ne (tgt := 18) hx hb dX9_path_13 (by decide) (fun c => absurd (by decide) c) (fun _ => ?_)
      refine lv_iconst (v := (-1)) hx hb dX9_path_16 (by decide) ?_
      have ttl_m1 := tl_m1
      exact tI hx hb hr hlk rfl hP hS ⟨(by omega), rfl⟩ dX9_path_17
  · refine lv_if_eq (tgt := 16) hx hb dX9_path_5 (by decide) (fun _ => ?_) (fun c => absurd (by decide) c)
    refine lv_iconst (v := (-1)) hx hb dX9_path_16 (by decide) ?_
    have ttl_m1 := tl_m1
    exact tI hx hb hr hlk rfl hP hS ⟨(by omega), rfl⟩ dX9_path_17
set_option maxHeartbeats 4000000 in
set_option maxRecDepth 100000 in
theorem s_X9_shock_0 (l : Launch) (B0 : Nat) (adK adV : Nat → Nat) (D : va_G) (cy : Nat → ClassId) (ad : Nat → Nat) (fr0 : Nat → va_E) (c_text : Nat → Int32) (m_taped : Int32) (m_size : Int32) (m_faultKind : Int32) (m_faultPlace : Int32) (m_at : Int32) (m_end : Int32) (m_token : Int32) (m_number : Int32) (m_name : Int64) (c_points : Nat → Int32) (c_strands : Nat → Int32) (c_units : Nat → Int32) (c_told : Nat → Int32) (c_ruleFrom : Nat → Int32) (c_ruleTo : Nat → Int32) (c_code : Nat → Int32) (c_eWhat : Nat → Int32) (c_eSign : Nat → Int32) (m_bank : Int32) (m_rb : Int32) (m_codes : Int32) (m_within : Int32) (m_piled : Int32) (m_unitsInRule : Int32) (m_askStrand : Int32) (m_askTied : Int32) (m_thoughtClaim : Int32) (m_thoughtNeed : Int32) (m_thoughtAll : Int32) (c_roundOf : Nat → Int32) (m_acts : Int32) (m_undone : Int32) (m_laid : Int32) (m_firstMove : Int32) (m_seens : Int32) (m_time : Int32) (m_waysNow : Int32) (m_fitting : Int32) (f : Nat → va_E) (hT : TYm ad cy fr0 c_text m_taped m_size m_faultKind m_faultPlace m_at m_end m_token m_number m_name c_points c_strands c_units c_told c_ruleFrom c_ruleTo c_code c_eWhat c_eSign m_bank m_rb m_codes m_within m_piled m_unitsInRule m_askStrand m_askTied m_thoughtClaim m_thoughtNeed m_thoughtAll c_roundOf m_acts m_undone m_laid m_firstMove m_seens m_time m_waysNow m_fitting f) (p1 : Int32) (hCV : CVp c_told c_ruleFrom c_ruleTo c_code m_bank) (sz : Nat) : TtI l yX9_shock wsX9_shock 8 178 [.ref (ad 148), .int p1] B0 adK adV D cy ad f sz (fun (r : Int32) (g : Nat → va_E) => (-1 ≤ r.toInt ∧ r.toInt ≤ 32) ∧ (∃ (m_askStrand' : Int32) (m_askTied' : Int32) (c_roundOf' : Nat → Int32), TYm ad cy fr0 c_text m_taped m_size m_faultKind m_faultPlace m_at m_end m_token m_number m_name c_points c_strands c_units c_told c_ruleFrom c_ruleTo c_code c_eWhat c_eSign m_bank m_rb m_codes m_within m_piled m_unitsInRule m_askStrand' m_askTied' m_thoughtClaim m_thoughtNeed m_thoughtAll c_roundOf' m_acts m_undone m_laid m_firstMove m_seens m_time m_waysNow m_fitting g)) := by
  refine TtI.of (cc := cX9_shock) (maxL := 3) (ty := .int) (own := RX9) (by decide) rfl (Nat.le_of_ble_eq_true rfl) rfl ?_
  intro p e s m below meth c A ls hx hb hr hml hts hown hlk hK hE hP hD hS hA hAB hl
  have hl : lv_has ls 3 [(0, .ref (ad 148)), (1, .int p1)] := hl
  refine st0 (fun H locs hP hS => ?_) hP hS
  have j18 : ∀ (N : Nat) (f : Nat → va_E) (H : Heap) (locs : List Loc) (ls : Array Slot) (v18_l2 : Int32), (13 - v18_l2.toInt ≤ (N : Int)) → (0 ≤ v18_l2.toInt ∧ v18_l2.toInt ≤ 12) → (0 ≤ p1.toInt ∧ p1.toInt ≤ 20) → (TYm ad cy fr0 c_text m_taped m_size m_faultKind m_faultPlace m_at m_end m_token m_number m_name c_points c_strands c_units c_told c_ruleFrom c_ruleTo c_code c_eWhat c_eSign m_bank m_rb m_codes m_within m_piled m_unitsInRule m_askStrand m_askTied m_thoughtClaim m_thoughtNeed m_thoughtAll c_roundOf m_acts m_undone m_laid m_firstMove m_seens m_time m_waysNow m_fitting f) → (va_P D vwCl (wl ad f) H) → (va_D A (wl ad f)) → (va_S A s.heap H locs) → (lv_has ls 3 [(2, .int v18_l2), (0, .ref (ad 148)), (1, .int p1)]) → W p l e (rmO 8 178 0 0) s m ([.ref (ad 148), .int p1] : List Value).toArray below meth c H locs 0 0 (MQ below (va_Qi (fun (r : Int32) (g : Nat → va_E) => (-1 ≤ r.toInt ∧ r.toInt ≤ 32) ∧ (∃ (m_askStrand' : Int32) (m_askTied' : Int32) (c_roundOf' : Nat → Int32), TYm ad cy fr0 c_text m_taped m_size m_faultKind m_faultPlace m_at m_end m_token m_number m_name c_points c_strands c_units c_told c_ruleFrom c_ruleTo c_code c_eWhat c_eSign m_bank m_rb m_codes m_within m_piled m_unitsInRule m_askStrand' m_askTied' m_thoughtClaim m_thoughtNeed m_thoughtAll c_roundOf' m_acts m_undone m_laid m_firstMove m_seens m_time m_waysNow m_fitting g)) (fun g t => PstT D ad g t) A) ([.ref (ad 148), .int p1] : List Value).toArray s 0 0 A) (F0 m 18 ls []) := by
    intro N
    induction N with
    | zero => intro f H locs ls v18_l2 hN hv18_l2 hv18_l1 hT hP hD hS hl; exact absurd hN (by omega)
    | succ N ih18 =>
      intro f H locs ls v18_l2 hN hv18_l2 hv18_l1 hT hP hD hS hl
      refine lv_iload_n hx hb dX9_shock_18 rfl (lv_at hl 0 rfl) ?_
      refine lv_aload_n hx hb dX9_shock_19 rfl (lv_at hl 1 rfl) ?_
      obtain ⟨e16, h1, h2, h3, h4, h5, h6, h7, h8, h9, h10, h11, h12, h13, h14, h15⟩ := (show okX9 ad m_taped m_size m_faultKind m_faultPlace m_at m_end m_token m_number m_name m_bank m_rb m_codes m_within m_piled m_unitsInRule m_askStrand m_askTied m_thoughtClaim m_thoughtNeed m_thoughtAll m_acts m_undone m_laid m_firstMove m_seens m_time m_waysNow m_fitting 148 (f 148) from hT.1 148 (by decide))
      refine tVI (As := []) (rest := [.int v18_l2]) (i := 148) ⟨hx, hb, hml, hown, hts⟩ hK hE hP hD hS hA hAB (s_X9_threads_0 l B0 adK adV D cy ad fr0 c_text m_taped m_size m_faultKind m_faultPlace m_at m_end m_token m_number m_name c_points c_strands c_units c_told c_ruleFrom c_ruleTo c_code c_eWhat c_eSign m_bank m_rb m_codes m_within m_piled m_unitsInRule m_askStrand m_askTied m_thoughtClaim m_thoughtNeed m_thoughtAll c_roundOf m_acts m_undone m_laid m_firstMove m_seens m_time m_waysNow m_fitting f hT _) (cwV 0 hts gX9_shock_X9_threads rfl rfl rfl (by decide +kernel) ⟨Nat.le_of_ble_eq_true rfl, Nat.le_of_ble_eq_true rfl⟩) (by decide) 9 e16 rfl rfl hl.1 rfl (Nat.le_of_ble_eq_true rfl) dX9_shock_20 ⟨Nat.le_of_ble_eq_true rfl, Nat.le_of_ble_eq_true rfl⟩ (fun r g H locs hw hP hD hS => ?_)
      obtain ⟨hrs, rfl⟩ := hw
      obtain ⟨x17, rfl⟩ : ∃ q, q = r := ⟨_, rfl⟩
      have h18 := hrs
      refine lv_icmp_ge (tgt := 56) hx hb dX9_shock_23 (by decide) (fun c19 => ?_) (fun c19 => ?_)
      · have kc19 := c_le c19
        refine lv_aload_n hx hb dX9_shock_56 rfl (lv_at hl 1 rfl) ?_
        refine tVI (As := []) (rest := []) (i := 148) ⟨hx, hb, hml, hown, hts⟩ hK hE hP hD hS hA hAB (s_X9_claimsNow_0 l B0 adK adV D cy ad fr0 c_text m_taped m_size m_faultKind m_faultPlace m_at m_end m_token m_number m_name c_points c_strands c_units c_told c_ruleFrom c_ruleTo c_code c_eWhat c_eSign m_bank m_rb m_codes m_within m_piled m_unitsInRule m_askStrand m_askTied m_thoughtClaim m_thoughtNeed m_thoughtAll c_roundOf m_acts m_undone m_laid m_firstMove m_seens m_time m_waysNow m_fitting f hT hCV _) (cwV 0 hts gX9_shock_X9_claimsNow rfl rfl rfl (by decide +kernel) ⟨Nat.le_of_ble_eq_true rfl, Nat.le_of_ble_eq_true rfl⟩) (by decide) 9 e16 rfl rfl hl.1 rfl (Nat.le_of_ble_eq_true rfl) dX9_shock_57 ⟨Nat.le_of_ble_eq_true rfl, Nat.le_of_ble_eq_true rfl⟩ (fun r f H locs hw hP hD hS => ?_)
        obtain ⟨hrs, x20, x21, y22, hT, h23⟩ := hw
        obtain ⟨x24, rfl⟩ : ∃ q, q = r := ⟨_, rfl⟩
        have h25 := hrs
        refine lv_istore_n (lv' := [(2, .int x24), (0, .ref (ad 148)), (1, .int p1)]) hx hb dX9_shock_60 rfl hl (by decide) rfl (fun ls hl => ?_)
        refine lv_aload_n hx hb dX9_shock_61 rfl (lv_at hl 1 rfl) ?_
        obtain ⟨e41, h26, h27, h28, h29, h30, h31, h32, h33, h34, h35, h36, h37, h38, h39, h40⟩ := (show okX9 ad m_taped m_size m_faultKind m_faultPlace m_at m_end m_token m_number m_name m_bank m_rb m_codes m_within m_piled m_unitsInRule x20 x21 m_thoughtClaim m_thoughtNeed m_thoughtAll m_acts m_undone m_laid m_firstMove m_seens m_time m_waysNow m_fitting 148 (f 148) from hT.1 148 (by decide))
        refine tVV (As := []) (rest := []) (i := 148) ⟨hx, hb, hml, hown, hts⟩ hK hE hP hD hS hA hAB (s_X9_bringBack_0 l B0 adK adV D cy ad fr0 c_text m_taped m_size m_faultKind m_faultPlace m_at m_end m_token m_number m_name c_points c_strands c_units c_told c_ruleFrom c_ruleTo c_code c_eWhat c_eSign m_bank m_rb m_codes m_within m_piled m_unitsInRule x20 x21 m_thoughtClaim m_thoughtNeed m_thoughtAll y22 m_acts m_undone m_laid m_firstMove m_seens m_time m_waysNow m_fitting f hT _) (cwV 0 hts gX9_shock_X9_bringBack rfl rfl rfl (by decide +kernel) ⟨Nat.le_of_ble_eq_true rfl, Nat.le_of_ble_eq_true rfl⟩) (by decide) 9 e41 rfl rfl hl.1 rfl (Nat.le_of_ble_eq_true rfl) dX9_shock_62 ⟨Nat.le_of_ble_eq_true rfl, Nat.le_of_ble_eq_true rfl⟩ (fun f H locs hw hP hD hS => ?_)
        obtain ⟨hrs, hT⟩ := hw
        refine lv_iload_n hx hb dX9_shock_65 rfl (lv_at hl 0 rfl) ?_
        exact tI hx hb hr hlk rfl hP hS ⟨(by omega), ⟨x20, x21, y22, hT⟩⟩ dX9_shock_66
      · have kc19 := c_nle c19
        refine lv_aload_n hx hb dX9_shock_26 rfl (lv_at hl 1 rfl) ?_
        refine va_get (D := D) (cl := vwCl) (ci := 9) (v := .ref (ad 169)) (C := RX9) (T := TX9) (N := 64) hx hb hts in_X9_shock_X9 hown hK hP 148 (wl_at (by decide) e16) rfl 37 (by decide) (hts (.fieldLink RX9 76 "EightReasonsModel" "all" "[I") (List.mem_of_getElem? (i := 1) rfl)) (fun _ h9 => h9) rfl dX9_shock_27 ?_
        refine lv_iconst (v := 2) hx hb dX9_shock_30 (by decide) ?_
        refine lv_iload_n hx hb dX9_shock_31 rfl (lv_at hl 0 rfl) ?_
        have ttl_2 := tl_2
        refine lv_iadd hx hb dX9_shock_32 ?_
        refine lv_topi (fun x42 ex42 => ?_)
        have hx42 := r_add ex42 (by omega) (by omega)
        refine lv_aload_n hx hb dX9_shock_33 rfl (lv_at hl 1 rfl) ?_
        refine va_get (D := D) (cl := vwCl) (ci := 9) (v := .ref (ad 169)) (C := RX9) (T := TX9) (N := 64) hx hb hts in_X9_shock_X9 hown hK hP 148 (wl_at (by decide) e16) rfl 37 (by decide) (hts (.fieldLink RX9 76 "EightReasonsModel" "all" "[I") (List.mem_of_getElem? (i := 1) rfl)) (fun _ h9 => h9) rfl dX9_shock_34 ?_
        refine lv_iconst (v := 2) hx hb dX9_shock_37 (by decide) ?_
        refine lv_iload_n hx hb dX9_shock_38 rfl (lv_at hl 0 rfl) ?_
        refine lv_iadd hx hb dX9_shock_39 ?_
        refine lv_topi (fun x43 ex43 => ?_)
        have hx43 := r_add ex43 (by omega) (by omega)
        obtain ⟨g46, e44, h45⟩ := (show okIr cy 16 (0) (4095) 16 1 (f 169) from hT.1 169 (by decide))
        have hc47 := clampZ (x := x43) (by omega)
        refine va_iald hx hb hK hP 169 0 (wl_at (by decide) e44) rfl (vp_in_iff.mpr ⟨by omega, by omega⟩) dX9_shock_40 ?_
        refine lv_topi (fun x48 ex48 => ?_)
        have hx48 := r_elc (h45 _) ex48
        refine lv_iload_n hx hb dX9_shock_41 rfl (lv_at hl 2 rfl) ?_
        refine lv_isub hx hb dX9_shock_42 ?_
        refine lv_topi (fun x49 ex49 => ?_)
        refine lv_iconst (v := 0) hx hb dX9_shock_43 (by decide) ?_
        refine lv_bipush (v := 20) hx hb dX9_shock_44 (by decide) ?_
        have ttl_0 := tl_0
        have ttl_20 := tl_20
        refine tSI (As := [.int x49, .int 0, .int 20]) (rest := [.int x42, .ref (ad 169)]) ⟨hx, hb, hml, hown, hts⟩ hK hE hP hD hS hA hAB (s_X9_held_0 l B0 adK adV D cy ad f x49 (0 : Int32) (by omega) (20 : Int32) (by omega) _) (va_cwS 3 hts gX9_shock_X9_held rfl rfl rfl (by decide +kernel) ⟨Nat.le_of_ble_eq_true rfl, Nat.le_of_ble_eq_true rfl⟩) rfl hl.1 rfl (Nat.le_of_ble_eq_true rfl) dX9_shock_46 ⟨Nat.le_of_ble_eq_true rfl, Nat.le_of_ble_eq_true rfl⟩ (fun r g H locs hw hP hD hS => ?_)
        obtain ⟨hrs, rfl⟩ := hw
        obtain ⟨x50, rfl⟩ : ∃ q, q = r := ⟨_, rfl⟩
        have h51 := hrs
        refine va_iast hx hb hK hP hD hS 169 0 (wl_at (by decide) e44) rfl (vp_in_iff.mpr ⟨by omega, by omega⟩) dX9_shock_49 (fun H locs hP hD hS => ?_)
        obtain ⟨f, hT, hP, hD, e52, hj53⟩ := stU (by decide) (TYm.up hT (by decide) (show OKm ad cy c_text m_taped m_size m_faultKind m_faultPlace m_at m_end m_token m_number m_name c_points c_strands c_units c_told c_ruleFrom c_ruleTo c_code c_eWhat c_eSign m_bank m_rb m_codes m_within m_piled m_unitsInRule m_askStrand m_askTied m_thoughtClaim m_thoughtNeed m_thoughtAll c_roundOf m_acts m_undone m_laid m_firstMove m_seens m_time m_waysNow m_fitting 169 _ from (show okIr cy 16 (0) (4095) 16 1 _ from ⟨_, rfl, upd_r h45 (fun _ => by omega)⟩))) hP hD
        have e54 := (hj53 148 (by decide)).trans e16
        obtain ⟨x55, ex55⟩ : ∃ q : Int32, q = v18_l2 + Int32.ofInt (1) := ⟨_, rfl⟩
        refine lv_iinc (v := x55) (lv' := [(2, .int x55), (0, .ref (ad 148)), (1, .int p1)]) hx hb dX9_shock_50 hl (k := 0) rfl ex55.symm (by decide) rfl (fun ls hl => ?_)
        have hx55 := r_inc ex55 (by decide) (by omega) (by omega)
        refine lv_goto (tgt := 18) hx hb dX9_shock_53 (by decide) ?_
        exact ih18 f H locs ls x55 (by omega) (by omega) (by omega) hT hP hD hS (lv_sub hl [0, 1, 2] rfl)
  refine lv_iload_n hx hb dX9_shock_0 rfl (lv_at hl 1 rfl) ?_
  refine lv_iconst (v := 0) hx hb dX9_shock_1 (by decide) ?_
  refine lv_bipush (v := 20) hx hb dX9_shock_2 (by decide) ?_
  have ttl_0 := tl_0
  have ttl_20 := tl_20
  refine tSI (As := [.int p1, .int 0, .int 20]) (rest := []) ⟨hx, hb, hml, hown, hts⟩ hK hE hP hD hS hA hAB (s_X9_isIn_0 l B0 adK adV D cy ad f p1 (0 : Int32) (by omega) (20 : Int32) (by omega) _) (va_cwS 3 hts gX9_shock_X9_isIn rfl rfl rfl (by decide +kernel) ⟨Nat.le_of_ble_eq_true rfl, Nat.le_of_ble_eq_true rfl⟩) rfl hl.1 rfl (Nat.le_of_ble_eq_true rfl) dX9_shock_4 ⟨Nat.le_of_ble_eq_true rfl, Nat.le_of_ble_eq_true rfl⟩ (fun r g H locs hw hP hD hS => ?_)
  obtain ⟨hrs, rfl⟩ := hw
  obtain ⟨x56, rfl⟩ : ∃ q, q = r := ⟨_, rfl⟩
  rcases hrs with ⟨rfl, h57, h58⟩ | rfl
  · refine lv_if_ne (tgt := 12) hx hb dX9_shock_7 (by decide) (fun _ => ?_) (fun c => absurd c (by decide))
    refine lv_aload_n hx hb dX9_shock_12 rfl (lv_at hl 0 rfl) ?_
    obtain ⟨e74, h59, h60, h61, h62, h63, h64, h65, h66, h67, h68, h69, h70, h71, h72, h73⟩ := (show okX9 ad m_taped m_size m_faultKind m_faultPlace m_at m_end m_token m_number m_name m_bank m_rb m_codes m_within m_piled m_unitsInRule m_askStrand m_askTied m_thoughtClaim m_thoughtNeed m_thoughtAll m_acts m_undone m_laid m_firstMove m_seens m_time m_waysNow m_fitting 148 (f 148) from hT.1 148 (by decide))
    refine tVV (As := []) (rest := []) (i := 148) ⟨hx, hb, hml, hown, hts⟩ hK hE hP hD hS hA hAB (s_X9_keepNow_0 l B0 adK adV D cy ad fr0 c_text m_taped m_size m_faultKind m_faultPlace m_at m_end m_token m_number m_name c_points c_strands c_units c_told c_ruleFrom c_ruleTo c_code c_eWhat c_eSign m_bank m_rb m_codes m_within m_piled m_unitsInRule m_askStrand m_askTied m_thoughtClaim m_thoughtNeed m_thoughtAll c_roundOf m_acts m_undone m_laid m_firstMove m_seens m_time m_waysNow m_fitting f hT _) (cwV 0 hts gX9_shock_X9_keepNow rfl rfl rfl (by decide +kernel) ⟨Nat.le_of_ble_eq_true rfl, Nat.le_of_ble_eq_true rfl⟩) (by decide) 9 e74 rfl rfl hl.1 rfl (Nat.le_of_ble_eq_true rfl) dX9_shock_13 ⟨Nat.le_of_ble_eq_true rfl, Nat.le_of_ble_eq_true rfl⟩ (fun f H locs hw hP hD hS => ?_)
    obtain ⟨hrs, hT⟩ := hw
    refine lv_iconst (v := 0) hx hb dX9_shock_16 (by decide) ?_
    refine lv_istore_n (lv' := [(2, .int 0), (0, .ref (ad 148)), (1, .int p1)]) hx hb dX9_shock_17 rfl hl (by decide) rfl (fun ls hl => ?_)
    exact j18 (Int.toNat (13 - (0 : Int32).toInt)) f H locs ls (0 : Int32) (by omega) (by omega) (by omega) hT hP hD hS (lv_sub hl [0, 1, 2] rfl)
  · refine lv_if_ne (tgt := 12) hx hb dX9_shock_7 (by decide) (fun c => absurd (by decide) c) (fun _ => ?_)
    refine lv_iconst (v := (-1)) hx hb dX9_shock_10 (by decide) ?_
    have ttl_m1 := tl_m1
    exact tI hx hb hr hlk rfl hP hS ⟨(by omega), ⟨m_askStrand, m_askTied, c_roundOf, hT⟩⟩ dX9_shock_11
