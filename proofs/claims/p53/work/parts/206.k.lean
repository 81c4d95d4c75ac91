set_option maxRecDepth 20000 in
theorem ggX9_standNow_X9_standBy : GoodIn wsX9_standNow wsX9_standBy := goodIn_r _ [6, 7, 8, 9, 10, 5, 11, 12, 13, 1, 14, 15, 16, 17, 18, 19, 20, 21, 22, 23, 24, 25, 26, 27, 28, 29, 30, 31, 32, 33, 34, 35, 36, 37, 38, 39, 40, 41, 42, 43, 44, 45, 46, 47, 48, 49, 50, 51, 52, 53, 54, 55, 56, 57, 58, 59, 60, 61, 62, 63, 64, 65, 66, 67, 68, 69, 70, 71, 72, 73, 74, 75, 76, 77, 78, 79, 80, 81, 82, 83, 84, 85, 86, 87, 88, 89, 90, 91, 92, 93, 94, 95, 96, 97, 98, 99, 100, 101, 102, 103, 104, 105, 106, 107, 108, 109, 110, 111, 112, 113, 114, 115, 116, 117, 118, 119, 120, 121, 122, 123, 124, 125, 126, 127, 128, 129, 130, 131, 132, 133, 134, 135, 136, 137, 138, 139, 140, 141, 142, 143, 144, 145, 146, 147, 148, 149, 150, 151, 152, 153, 154, 155, 156, 157, 158, 159, 160, 161, 162, 163, 164, 165, 166, 167] rfl rfl
set_option maxRecDepth 20000 in
theorem gX9_standNow_X9_standBy : GoodIn wsX9_standNow (wsV RX9 396 RX9 yX9_standBy wsX9_standBy) := goodIn_app (goodIn_of _ (by decide +kernel)) ggX9_standNow_X9_standBy
theorem dX9_standNow_0 : decode cX9_standNow 0 = .ok (.aload_n 0, 1) := by decide +kernel
theorem dX9_standNow_1 : decode cX9_standNow 1 = .ok (.aload_n 0, 1) := by decide +kernel
theorem dX9_standNow_2 : decode cX9_standNow 2 = .ok (.getfield 76, 3) := by decide +kernel
theorem dX9_standNow_5 : decode cX9_standNow 5 = .ok (.iconst 0, 1) := by decide +kernel
theorem dX9_standNow_6 : decode cX9_standNow 6 = .ok (.iaload, 1) := by decide +kernel
theorem dX9_standNow_7 : decode cX9_standNow 7 = .ok (.aload_n 0, 1) := by decide +kernel
theorem dX9_standNow_8 : decode cX9_standNow 8 = .ok (.getfield 76, 3) := by decide +kernel
theorem dX9_standNow_11 : decode cX9_standNow 11 = .ok (.iconst 1, 1) := by decide +kernel
theorem dX9_standNow_12 : decode cX9_standNow 12 = .ok (.iaload, 1) := by decide +kernel
theorem dX9_standNow_13 : decode cX9_standNow 13 = .ok (.invokevirtual 396, 3) := by decide +kernel
theorem dX9_standNow_16 : decode cX9_standNow 16 = .ok (.ireturn, 1) := by decide +kernel
set_option maxRecDepth 20000 in
theorem ggX9_claimsNow_X9_standNow : GoodIn wsX9_claimsNow wsX9_standNow := goodIn_r _ [5, 6, 7, 8, 9, 4, 10, 11, 12, 13, 14, 15, 16, 17, 18, 19, 20, 21, 22, 23, 24, 25, 26, 27, 28, 29, 30, 31, 32, 33, 34, 35, 36, 37, 38, 39, 40, 41, 42, 43, 44, 45, 46, 47, 48, 49, 50, 51, 52, 53, 54, 55, 56, 57, 58, 59, 60, 61, 62, 63, 64, 65, 66, 67, 68, 69, 70, 71, 72, 73, 74, 75, 76, 77, 78, 79, 80, 81, 82, 83, 84, 85, 86, 87, 88, 89, 90, 91, 92, 93, 94, 95, 96, 97, 98, 99, 100, 101, 102, 103, 104, 105, 106, 107, 112, 113, 114, 115, 116, 117, 118, 119, 120, 121, 122, 123, 124, 125, 126, 127, 128, 129, 130, 131, 132, 133, 134, 135, 136, 137, 138, 139, 140, 141, 142, 143, 144, 145, 146, 147, 148, 149, 150, 151, 152, 153, 154, 155, 156, 157, 158, 159, 160, 161, 162, 163, 164, 165, 166, 167, 168, 169, 170, 171, 172, 173, 174, 175] rfl rfl
set_option maxRecDepth 20000 in
theorem gX9_claimsNow_X9_standNow : GoodIn wsX9_claimsNow (wsV RX9 402 RX9 yX9_standNow wsX9_standNow) := goodIn_app (goodIn_of _ (by decide +kernel)) ggX9_claimsNow_X9_standNow
set_option maxRecDepth 20000 in
theorem ggX9_claimsNow_X9_claims : GoodIn wsX9_claimsNow wsX9_claims := goodIn_r _ [111, 84, 85, 86, 4, 87, 88, 20, 80, 81, 82, 83, 89, 90, 91, 92, 73, 93, 94, 95, 96, 97, 98, 99, 112, 113, 114, 115, 116, 117, 118, 119, 120, 121, 122, 123, 124, 125, 126, 127, 128, 129, 130, 131, 132, 133, 134, 135, 136, 137, 138, 139, 140, 141, 142, 143, 144, 145, 146, 147, 148, 149, 150, 151, 152, 153, 154, 155, 156, 157, 158, 159, 160, 161, 162, 163, 164, 165, 166, 167, 168, 169, 170, 171, 172, 173, 174, 175] rfl rfl
set_option maxRecDepth 20000 in
theorem gX9_claimsNow_X9_claims : GoodIn wsX9_claimsNow (wsV RX9 405 RX9 yX9_claims wsX9_claims) := goodIn_app (goodIn_of _ (by decide +kernel)) ggX9_claimsNow_X9_claims
set_option maxRecDepth 20000 in
theorem ggX9_claimsNow_X9_bitsOf : GoodIn wsX9_claimsNow wsX9_bitsOf := goodIn_r _ [56] rfl rfl
set_option maxRecDepth 20000 in
theorem gX9_claimsNow_X9_bitsOf : GoodIn wsX9_claimsNow (va_wsS RX9 324 yX9_bitsOf wsX9_bitsOf) := goodIn_app (goodIn_of _ (by decide +kernel)) ggX9_claimsNow_X9_bitsOf
theorem dX9_claimsNow_0 : decode cX9_claimsNow 0 = .ok (.aload_n 0, 1) := by decide +kernel
theorem dX9_claimsNow_1 : decode cX9_claimsNow 1 = .ok (.invokevirtual 402, 3) := by decide +kernel
theorem dX9_claimsNow_4 : decode cX9_claimsNow 4 = .ok (.aload_n 0, 1) := by decide +kernel
theorem dX9_claimsNow_5 : decode cX9_claimsNow 5 = .ok (.invokevirtual 405, 3) := by decide +kernel
theorem dX9_claimsNow_8 : decode cX9_claimsNow 8 = .ok (.iand, 1) := by decide +kernel
theorem dX9_claimsNow_9 : decode cX9_claimsNow 9 = .ok (.invokestatic 324, 3) := by decide +kernel
theorem dX9_claimsNow_12 : decode cX9_claimsNow 12 = .ok (.ireturn, 1) := by decide +kernel
theorem dX9_keepAct_0 : decode cX9_keepAct 0 = .ok (.aload_n 0, 1) := by decide +kernel
theorem dX9_keepAct_1 : decode cX9_keepAct 1 = .ok (.getfield 368, 3) := by decide +kernel
theorem dX9_keepAct_4 : decode cX9_keepAct 4 = .ok (.bipush 40, 2) := by decide +kernel
theorem dX9_keepAct_6 : decode cX9_keepAct 6 = .ok (.if_icmp .ne 43, 3) := by decide +kernel
theorem dX9_keepAct_9 : decode cX9_keepAct 9 = .ok (.iconst 0, 1) := by decide +kernel
theorem dX9_keepAct_10 : decode cX9_keepAct 10 = .ok (.istore_n 1, 1) := by decide +kernel
theorem dX9_keepAct_11 : decode cX9_keepAct 11 = .ok (.iload_n 1, 1) := by decide +kernel
theorem dX9_keepAct_12 : decode cX9_keepAct 12 = .ok (.sipush 640, 3) := by decide +kernel
theorem dX9_keepAct_15 : decode cX9_keepAct 15 = .ok (.if_icmp .ge 24, 3) := by decide +kernel
theorem dX9_keepAct_18 : decode cX9_keepAct 18 = .ok (.aload_n 0, 1) := by decide +kernel
theorem dX9_keepAct_19 : decode cX9_keepAct 19 = .ok (.getfield 94, 3) := by decide +kernel
theorem dX9_keepAct_22 : decode cX9_keepAct 22 = .ok (.iload_n 1, 1) := by decide +kernel
theorem dX9_keepAct_23 : decode cX9_keepAct 23 = .ok (.aload_n 0, 1) := by decide +kernel
theorem dX9_keepAct_24 : decode cX9_keepAct 24 = .ok (.getfield 94, 3) := by decide +kernel
theorem dX9_keepAct_27 : decode cX9_keepAct 27 = .ok (.iload_n 1, 1) := by decide +kernel
theorem dX9_keepAct_28 : decode cX9_keepAct 28 = .ok (.bipush 16, 2) := by decide +kernel
theorem dX9_keepAct_30 : decode cX9_keepAct 30 = .ok (.iadd, 1) := by decide +kernel
theorem dX9_keepAct_31 : decode cX9_keepAct 31 = .ok (.iaload, 1) := by decide +kernel
theorem dX9_keepAct_32 : decode cX9_keepAct 32 = .ok (.iastore, 1) := by decide +kernel
theorem dX9_keepAct_33 : decode cX9_keepAct 33 = .ok (.iinc 1 1, 3) := by decide +kernel
theorem dX9_keepAct_36 : decode cX9_keepAct 36 = .ok (.goto (-25), 3) := by decide +kernel
theorem dX9_keepAct_39 : decode cX9_keepAct 39 = .ok (.aload_n 0, 1) := by decide +kernel
theorem dX9_keepAct_40 : decode cX9_keepAct 40 = .ok (.dup, 1) := by decide +kernel
theorem dX9_keepAct_41 : decode cX9_keepAct 41 = .ok (.getfield 368, 3) := by decide +kernel
theorem dX9_keepAct_44 : decode cX9_keepAct 44 = .ok (.iconst 1, 1) := by decide +kernel
theorem dX9_keepAct_45 : decode cX9_keepAct 45 = .ok (.isub, 1) := by decide +kernel
theorem dX9_keepAct_46 : decode cX9_keepAct 46 = .ok (.putfield 368, 3) := by decide +kernel
theorem dX9_keepAct_49 : decode cX9_keepAct 49 = .ok (.iconst 0, 1) := by decide +kernel
theorem dX9_keepAct_50 : decode cX9_keepAct 50 = .ok (.istore_n 1, 1) := by decide +kernel
theorem dX9_keepAct_51 : decode cX9_keepAct 51 = .ok (.iload_n 1, 1) := by decide +kernel
theorem dX9_keepAct_52 : decode cX9_keepAct 52 = .ok (.bipush 16, 2) := by decide +kernel
theorem dX9_keepAct_54 : decode cX9_keepAct 54 = .ok (.if_icmp .ge 29, 3) := by decide +kernel
theorem dX9_keepAct_57 : decode cX9_keepAct 57 = .ok (.aload_n 0, 1) := by decide +kernel
theorem dX9_keepAct_58 : decode cX9_keepAct 58 = .ok (.getfield 94, 3) := by decide +kernel
theorem dX9_keepAct_61 : decode cX9_keepAct 61 = .ok (.bipush 16, 2) := by decide +kernel
theorem dX9_keepAct_63 : decode cX9_keepAct 63 = .ok (.aload_n 0, 1) := by decide +kernel
theorem dX9_keepAct_64 : decode cX9_keepAct 64 = .ok (.getfield 368, 3) := by decide +kernel
theorem dX9_keepAct_67 : decode cX9_keepAct 67 = .ok (.imul, 1) := by decide +kernel
theorem dX9_keepAct_68 : decode cX9_keepAct 68 = .ok (.iload_n 1, 1) := by decide +kernel
theorem dX9_keepAct_69 : decode cX9_keepAct 69 = .ok (.iadd, 1) := by decide +kernel
theorem dX9_keepAct_70 : decode cX9_keepAct 70 = .ok (.aload_n 0, 1) := by decide +kernel
theorem dX9_keepAct_71 : decode cX9_keepAct 71 = .ok (.getfield 76, 3) := by decide +kernel
theorem dX9_keepAct_74 : decode cX9_keepAct 74 = .ok (.iload_n 1, 1) := by decide +kernel
theorem dX9_keepAct_75 : decode cX9_keepAct 75 = .ok (.iaload, 1) := by decide +kernel
theorem dX9_keepAct_76 : decode cX9_keepAct 76 = .ok (.iastore, 1) := by decide +kernel
theorem dX9_keepAct_77 : decode cX9_keepAct 77 = .ok (.iinc 1 1, 3) := by decide +kernel
theorem dX9_keepAct_80 : decode cX9_keepAct 80 = .ok (.goto (-29), 3) := by decide +kernel
theorem dX9_keepAct_83 : decode cX9_keepAct 83 = .ok (.aload_n 0, 1) := by decide +kernel
theorem dX9_keepAct_84 : decode cX9_keepAct 84 = .ok (.dup, 1) := by decide +kernel
theorem dX9_keepAct_85 : decode cX9_keepAct 85 = .ok (.getfield 368, 3) := by decide +kernel
theorem dX9_keepAct_88 : decode cX9_keepAct 88 = .ok (.iconst 1, 1) := by decide +kernel
theorem dX9_keepAct_89 : decode cX9_keepAct 89 = .ok (.iadd, 1) := by decide +kernel
theorem dX9_keepAct_90 : decode cX9_keepAct 90 = .ok (.putfield 368, 3) := by decide +kernel
theorem dX9_keepAct_93 : decode cX9_keepAct 93 = .ok (.aload_n 0, 1) := by decide +kernel
theorem dX9_keepAct_94 : decode cX9_keepAct 94 = .ok (.iconst 0, 1) := by decide +kernel
theorem dX9_keepAct_95 : decode cX9_keepAct 95 = .ok (.putfield 371, 3) := by decide +kernel
theorem dX9_keepAct_98 : decode cX9_keepAct 98 = .ok (.return_, 1) := by decide +kernel
theorem dX9_swapAll_0 : decode cX9_swapAll 0 = .ok (.iconst 0, 1) := by decide +kernel
theorem dX9_swapAll_1 : decode cX9_swapAll 1 = .ok (.istore_n 1, 1) := by decide +kernel
theorem dX9_swapAll_2 : decode cX9_swapAll 2 = .ok (.iload_n 1, 1) := by decide +kernel
theorem dX9_swapAll_3 : decode cX9_swapAll 3 = .ok (.bipush 16, 2) := by decide +kernel
theorem dX9_swapAll_5 : decode cX9_swapAll 5 = .ok (.if_icmp .ge 51, 3) := by decide +kernel
theorem dX9_swapAll_8 : decode cX9_swapAll 8 = .ok (.aload_n 0, 1) := by decide +kernel
theorem dX9_swapAll_9 : decode cX9_swapAll 9 = .ok (.getfield 94, 3) := by decide +kernel
theorem dX9_swapAll_12 : decode cX9_swapAll 12 = .ok (.bipush 16, 2) := by decide +kernel
theorem dX9_swapAll_14 : decode cX9_swapAll 14 = .ok (.aload_n 0, 1) := by decide +kernel
theorem dX9_swapAll_15 : decode cX9_swapAll 15 = .ok (.getfield 368, 3) := by decide +kernel
theorem dX9_swapAll_18 : decode cX9_swapAll 18 = .ok (.imul, 1) := by decide +kernel
theorem dX9_swapAll_19 : decode cX9_swapAll 19 = .ok (.iload_n 1, 1) := by decide +kernel
theorem dX9_swapAll_20 : decode cX9_swapAll 20 = .ok (.iadd, 1) := by decide +kernel
theorem dX9_swapAll_21 : decode cX9_swapAll 21 = .ok (.iaload, 1) := by decide +kernel
theorem dX9_swapAll_22 : decode cX9_swapAll 22 = .ok (.istore_n 2, 1) := by decide +kernel
theorem dX9_swapAll_23 : decode cX9_swapAll 23 = .ok (.aload_n 0, 1) := by decide +kernel
theorem dX9_swapAll_24 : decode cX9_swapAll 24 = .ok (.getfield 94, 3) := by decide +kernel
theorem dX9_swapAll_27 : decode cX9_swapAll 27 = .ok (.bipush 16, 2) := by decide +kernel
theorem dX9_swapAll_29 : decode cX9_swapAll 29 = .ok (.aload_n 0, 1) := by decide +kernel
theorem dX9_swapAll_30 : decode cX9_swapAll 30 = .ok (.getfield 368, 3) := by decide +kernel
theorem dX9_swapAll_33 : decode cX9_swapAll 33 = .ok (.imul, 1) := by decide +kernel
theorem dX9_swapAll_34 : decode cX9_swapAll 34 = .ok (.iload_n 1, 1) := by decide +kernel
theorem dX9_swapAll_35 : decode cX9_swapAll 35 = .ok (.iadd, 1) := by decide +kernel
theorem dX9_swapAll_36 : decode cX9_swapAll 36 = .ok (.aload_n 0, 1) := by decide +kernel
theorem dX9_swapAll_37 : decode cX9_swapAll 37 = .ok (.getfield 76, 3) := by decide +kernel
theorem dX9_swapAll_40 : decode cX9_swapAll 40 = .ok (.iload_n 1, 1) := by decide +kernel
theorem dX9_swapAll_41 : decode cX9_swapAll 41 = .ok (.iaload, 1) := by decide +kernel
theorem dX9_swapAll_42 : decode cX9_swapAll 42 = .ok (.iastore, 1) := by decide +kernel
theorem dX9_swapAll_43 : decode cX9_swapAll 43 = .ok (.aload_n 0, 1) := by decide +kernel
theorem dX9_swapAll_44 : decode cX9_swapAll 44 = .ok (.getfield 76, 3) := by decide +kernel
theorem dX9_swapAll_47 : decode cX9_swapAll 47 = .ok (.iload_n 1, 1) := by decide +kernel
theorem dX9_swapAll_48 : decode cX9_swapAll 48 = .ok (.iload_n 2, 1) := by decide +kernel
theorem dX9_swapAll_49 : decode cX9_swapAll 49 = .ok (.iastore, 1) := by decide +kernel
theorem dX9_swapAll_50 : decode cX9_swapAll 50 = .ok (.iinc 1 1, 3) := by decide +kernel
theorem dX9_swapAll_53 : decode cX9_swapAll 53 = .ok (.goto (-51), 3) := by decide +kernel
theorem dX9_swapAll_56 : decode cX9_swapAll 56 = .ok (.return_, 1) := by decide +kernel
set_option maxRecDepth 20000 in
theorem ggX9_turned_X9_keepAct : GoodIn wsX9_turned wsX9_keepAct := goodIn_r _ [6, 7, 8, 1, 9, 123, 124, 125, 126, 127, 128, 129, 130, 131, 132, 133, 134, 135, 136, 137, 138, 139, 140, 141, 142, 143, 144, 145, 146, 147, 148, 149, 150, 151, 152, 153, 154, 155, 156, 157, 158, 159, 160, 161, 162, 163, 164, 165, 166, 167, 168, 169, 170, 171, 172, 173, 174, 175, 176, 177, 178, 179, 180, 181, 182, 183, 184, 185, 186] rfl rfl
set_option maxRecDepth 20000 in
theorem gX9_turned_X9_keepAct : GoodIn wsX9_turned (wsV RX9 414 RX9 yX9_keepAct wsX9_keepAct) := goodIn_app (goodIn_of _ (by decide +kernel)) ggX9_turned_X9_keepAct
set_option maxRecDepth 20000 in
theorem ggX9_turned_X9_claimsNow : GoodIn wsX9_turned wsX9_claimsNow := goodIn_r _ [13, 14, 15, 16, 5, 17, 1, 18, 19, 20, 21, 22, 23, 24, 25, 26, 27, 28, 29, 30, 31, 32, 33, 34, 35, 36, 37, 38, 39, 40, 41, 42, 43, 44, 45, 46, 47, 48, 49, 50, 51, 52, 53, 54, 55, 56, 57, 58, 59, 60, 61, 62, 63, 64, 65, 66, 67, 68, 69, 70, 71, 72, 73, 74, 75, 76, 77, 78, 79, 80, 81, 82, 83, 84, 85, 86, 87, 88, 89, 90, 91, 92, 93, 94, 95, 96, 97, 98, 99, 100, 101, 102, 103, 104, 105, 106, 107, 108, 109, 110, 111, 112, 113, 114, 115, 116, 117, 118, 119, 120, 121, 122, 123, 124, 125, 126, 127, 128, 129, 130, 131, 132, 133, 134, 135, 136, 137, 138, 139, 140, 141, 142, 143, 144, 145, 146, 147, 148, 149, 150, 151, 152, 153, 154, 155, 156, 157, 158, 159, 160, 161, 162, 163, 164, 165, 166, 167, 168, 169, 170, 171, 172, 173, 174, 175, 176, 177, 178, 179, 180, 181, 182, 183, 184, 185, 186] rfl rfl
set_option maxRecDepth 20000 in
theorem gX9_turned_X9_claimsNow : GoodIn wsX9_turned (wsV RX9 417 RX9 yX9_claimsNow wsX9_claimsNow) := goodIn_app (goodIn_of _ (by decide +kernel)) ggX9_turned_X9_claimsNow
theorem dX9_turned_0 : decode cX9_turned 0 = .ok (.iload_n 3, 1) := by decide +kernel
theorem dX9_turned_1 : decode cX9_turned 1 = .ok (.ifCond .ne 5, 3) := by decide +kernel
theorem dX9_turned_4 : decode cX9_turned 4 = .ok (.iconst (-1), 1) := by decide +kernel
theorem dX9_turned_5 : decode cX9_turned 5 = .ok (.ireturn, 1) := by decide +kernel
theorem dX9_turned_6 : decode cX9_turned 6 = .ok (.aload_n 0, 1) := by decide +kernel
theorem dX9_turned_7 : decode cX9_turned 7 = .ok (.invokevirtual 414, 3) := by decide +kernel
theorem dX9_turned_10 : decode cX9_turned 10 = .ok (.aload_n 0, 1) := by decide +kernel
theorem dX9_turned_11 : decode cX9_turned 11 = .ok (.getfield 76, 3) := by decide +kernel
theorem dX9_turned_14 : decode cX9_turned 14 = .ok (.iload_n 1, 1) := by decide +kernel
theorem dX9_turned_15 : decode cX9_turned 15 = .ok (.dup2, 1) := by decide +kernel
theorem dX9_turned_16 : decode cX9_turned 16 = .ok (.iaload, 1) := by decide +kernel
theorem dX9_turned_17 : decode cX9_turned 17 = .ok (.iconst 1, 1) := by decide +kernel
theorem dX9_turned_18 : decode cX9_turned 18 = .ok (.iload_n 2, 1) := by decide +kernel
theorem dX9_turned_19 : decode cX9_turned 19 = .ok (.ishl, 1) := by decide +kernel
theorem dX9_turned_20 : decode cX9_turned 20 = .ok (.ixor, 1) := by decide +kernel
theorem dX9_turned_21 : decode cX9_turned 21 = .ok (.iastore, 1) := by decide +kernel
theorem dX9_turned_22 : decode cX9_turned 22 = .ok (.aload_n 0, 1) := by decide +kernel
theorem dX9_turned_23 : decode cX9_turned 23 = .ok (.invokevirtual 417, 3) := by decide +kernel
theorem dX9_turned_26 : decode cX9_turned 26 = .ok (.ireturn, 1) := by decide +kernel
set_option maxRecDepth 20000 in
theorem ggX9_cut_X9_isThread : GoodIn wsX9_cut wsX9_isThread := goodIn_r _ [6, 7, 8, 9, 5, 10, 11, 12, 13, 14, 15, 131, 132, 133, 134, 135, 136, 137, 138, 139, 140, 141, 142, 143, 144, 145, 146, 147, 148, 149, 150, 151, 152, 153, 154, 155, 156, 157, 158, 159, 160, 161, 162, 163, 164, 165, 166, 167, 168, 169, 170, 171, 172, 173, 174, 175, 176, 177, 178, 179, 180, 181, 182, 183, 184, 185, 186, 187, 188, 189, 190, 191, 192, 193, 194] rfl rfl
set_option maxRecDepth 20000 in
theorem gX9_cut_X9_isThread : GoodIn wsX9_cut (wsV RX9 408 RX9 yX9_isThread wsX9_isThread) := goodIn_app (goodIn_of _ (by decide +kernel)) ggX9_cut_X9_isThread
set_option maxRecDepth 20000 in
theorem ggX9_cut_X9_bit : GoodIn wsX9_cut wsX9_bit := goodIn_r _ [18] rfl rfl
set_option maxRecDepth 20000 in
theorem gX9_cut_X9_bit : GoodIn wsX9_cut (va_wsS RX9 245 yX9_bit wsX9_bit) := goodIn_app (goodIn_of _ (by decide +kernel)) ggX9_cut_X9_bit
set_option maxRecDepth 20000 in
theorem ggX9_cut_X9_turned : GoodIn wsX9_cut wsX9_turned := goodIn_r _ [22, 1, 23, 24, 25, 5, 26, 27, 28, 29, 30, 31, 32, 33, 34, 35, 36, 37, 38, 39, 40, 41, 42, 43, 44, 45, 46, 47, 48, 49, 50, 12, 7, 8, 9, 10, 11, 16, 17, 18, 51, 52, 53, 54, 55, 56, 57, 58, 59, 60, 61, 62, 63, 64, 65, 66, 67, 68, 69, 70, 71, 72, 73, 74, 75, 76, 77, 78, 79, 80, 81, 82, 83, 84, 85, 86, 87, 88, 89, 90, 91, 92, 93, 94, 95, 96, 97, 98, 99, 100, 101, 102, 103, 104, 105, 106, 107, 108, 109, 110, 111, 112, 113, 114, 115, 116, 117, 118, 13, 14, 15, 119, 120, 121, 122, 123, 124, 125, 126, 127, 128, 129, 130, 131, 132, 133, 134, 135, 136, 137, 138, 139, 140, 141, 142, 143, 144, 145, 146, 147, 148, 149, 150, 151, 152, 153, 154, 155, 156, 157, 158, 159, 160, 161, 162, 163, 164, 165, 166, 167, 168, 169, 170, 171, 172, 173, 174, 175, 176, 177, 178, 179, 180, 181, 182, 183, 184, 185, 186, 187, 188, 189, 190, 191, 192, 193, 194] rfl rfl
set_option maxRecDepth 20000 in
theorem gX9_cut_X9_turned : GoodIn wsX9_cut (wsV RX9 420 RX9 yX9_turned wsX9_turned) := goodIn_app (goodIn_of _ (by decide +kernel)) ggX9_cut_X9_turned
theorem dX9_cut_0 : decode cX9_cut 0 = .ok (.aload_n 0, 1) := by decide +kernel
theorem dX9_cut_1 : decode cX9_cut 1 = .ok (.iconst 1, 1) := by decide +kernel
theorem dX9_cut_2 : decode cX9_cut 2 = .ok (.iload_n 1, 1) := by decide +kernel
theorem dX9_cut_3 : decode cX9_cut 3 = .ok (.aload_n 0, 1) := by decide +kernel
theorem dX9_cut_4 : decode cX9_cut 4 = .ok (.iload_n 1, 1) := by decide +kernel
theorem dX9_cut_5 : decode cX9_cut 5 = .ok (.invokevirtual 408, 3) := by decide +kernel
theorem dX9_cut_8 : decode cX9_cut 8 = .ok (.ifCond .eq 20, 3) := by decide +kernel
theorem dX9_cut_11 : decode cX9_cut 11 = .ok (.aload_n 0, 1) := by decide +kernel
theorem dX9_cut_12 : decode cX9_cut 12 = .ok (.getfield 76, 3) := by decide +kernel
theorem dX9_cut_15 : decode cX9_cut 15 = .ok (.iconst 1, 1) := by decide +kernel
theorem dX9_cut_16 : decode cX9_cut 16 = .ok (.iaload, 1) := by decide +kernel
theorem dX9_cut_17 : decode cX9_cut 17 = .ok (.iload_n 1, 1) := by decide +kernel
theorem dX9_cut_18 : decode cX9_cut 18 = .ok (.invokestatic 245, 3) := by decide +kernel
theorem dX9_cut_21 : decode cX9_cut 21 = .ok (.ifCond .eq 7, 3) := by decide +kernel
theorem dX9_cut_24 : decode cX9_cut 24 = .ok (.iconst 1, 1) := by decide +kernel
theorem dX9_cut_25 : decode cX9_cut 25 = .ok (.goto 4, 3) := by decide +kernel
theorem dX9_cut_28 : decode cX9_cut 28 = .ok (.iconst 0, 1) := by decide +kernel
theorem dX9_cut_29 : decode cX9_cut 29 = .ok (.invokevirtual 420, 3) := by decide +kernel
theorem dX9_cut_32 : decode cX9_cut 32 = .ok (.ireturn, 1) := by decide +kernel
set_option maxRecDepth 20000 in
theorem ggX9_tie_X9_isThread : GoodIn wsX9_tie wsX9_isThread := goodIn_r _ [6, 7, 8, 9, 5, 10, 11, 12, 13, 14, 15, 131, 132, 133, 134, 135, 136, 137, 138, 139, 140, 141, 142, 143, 144, 145, 146, 147, 148, 149, 150, 151, 152, 153, 154, 155, 156, 157, 158, 159, 160, 161, 162, 163, 164, 165, 166, 167, 168, 169, 170, 171, 172, 173, 174, 175, 176, 177, 178, 179, 180, 181, 182, 183, 184, 185, 186, 187, 188, 189, 190, 191, 192, 193, 194] rfl rfl
set_option maxRecDepth 20000 in
theorem gX9_tie_X9_isThread : GoodIn wsX9_tie (wsV RX9 408 RX9 yX9_isThread wsX9_isThread) := goodIn_app (goodIn_of _ (by decide +kernel)) ggX9_tie_X9_isThread
set_option maxRecDepth 20000 in
theorem ggX9_tie_X9_bit : GoodIn wsX9_tie wsX9_bit := goodIn_r _ [18] rfl rfl
set_option maxRecDepth 20000 in
theorem gX9_tie_X9_bit : GoodIn wsX9_tie (va_wsS RX9 245 yX9_bit wsX9_bit) := goodIn_app (goodIn_of _ (by decide +kernel)) ggX9_tie_X9_bit
set_option maxRecDepth 20000 in
theorem ggX9_tie_X9_turned : GoodIn wsX9_tie wsX9_turned := goodIn_r _ [22, 1, 23, 24, 25, 5, 26, 27, 28, 29, 30, 31, 32, 33, 34, 35, 36, 37, 38, 39, 40, 41, 42, 43, 44, 45, 46, 47, 48, 49, 50, 12, 7, 8, 9, 10, 11, 16, 17, 18, 51, 52, 53, 54, 55, 56, 57, 58, 59, 60, 61, 62, 63, 64, 65, 66, 67, 68, 69, 70, 71, 72, 73, 74, 75, 76, 77, 78, 79, 80, 81, 82, 83, 84, 85, 86, 87, 88, 89, 90, 91, 92, 93, 94, 95, 96, 97, 98, 99, 100, 101, 102, 103, 104, 105, 106, 107, 108, 109, 110, 111, 112, 113, 114, 115, 116, 117, 118, 13, 14, 15, 119, 120, 121, 122, 123, 124, 125, 126, 127, 128, 129, 130, 131, 132, 133, 134, 135, 136, 137, 138, 139, 140, 141, 142, 143, 144, 145, 146, 147, 148, 149, 150, 151, 152, 153, 154, 155, 156, 157, 158, 159, 160, 161, 162, 163, 164, 165, 166, 167, 168, 169, 170, 171, 172, 173, 174, 175, 176, 177, 178, 179, 180, 181, 182, 183, 184, 185, 186, 187, 188, 189, 190, 191, 192, 193, 194] rfl rfl
set_option maxRecDepth 20000 in
theorem gX9_tie_X9_turned : GoodIn wsX9_tie (wsV RX9 420 RX9 yX9_turned wsX9_turned) := goodIn_app (goodIn_of _ (by decide +kernel)) ggX9_tie_X9_turned
theorem dX9_tie_0 : decode cX9_tie 0 = .ok (.aload_n 0, 1) := by decide +kernel
theorem dX9_tie_1 : decode cX9_tie 1 = .ok (.iconst 1, 1) := by decide +kernel
theorem dX9_tie_2 : decode cX9_tie 2 = .ok (.iload_n 1, 1) := by decide +kernel
theorem dX9_tie_3 : decode cX9_tie 3 = .ok (.aload_n 0, 1) := by decide +kernel
theorem dX9_tie_4 : decode cX9_tie 4 = .ok (.iload_n 1, 1) := by decide +kernel
theorem dX9_tie_5 : decode cX9_tie 5 = .ok (.invokevirtual 408, 3) := by decide +kernel
theorem dX9_tie_8 : decode cX9_tie 8 = .ok (.ifCond .eq 20, 3) := by decide +kernel
theorem dX9_tie_11 : decode cX9_tie 11 = .ok (.aload_n 0, 1) := by decide +kernel
theorem dX9_tie_12 : decode cX9_tie 12 = .ok (.getfield 76, 3) := by decide +kernel
theorem dX9_tie_15 : decode cX9_tie 15 = .ok (.iconst 1, 1) := by decide +kernel
theorem dX9_tie_16 : decode cX9_tie 16 = .ok (.iaload, 1) := by decide +kernel
theorem dX9_tie_17 : decode cX9_tie 17 = .ok (.iload_n 1, 1) := by decide +kernel
theorem dX9_tie_18 : decode cX9_tie 18 = .ok (.invokestatic 245, 3) := by decide +kernel
theorem dX9_tie_21 : decode cX9_tie 21 = .ok (.ifCond .ne 7, 3) := by decide +kernel
theorem dX9_tie_24 : decode cX9_tie 24 = .ok (.iconst 1, 1) := by decide +kernel
theorem dX9_tie_25 : decode cX9_tie 25 = .ok (.goto 4, 3) := by decide +kernel
theorem dX9_tie_28 : decode cX9_tie 28 = .ok (.iconst 0, 1) := by decide +kernel
theorem dX9_tie_29 : decode cX9_tie 29 = .ok (.invokevirtual 420, 3) := by decide +kernel
theorem dX9_tie_32 : decode cX9_tie 32 = .ok (.ireturn, 1) := by decide +kernel
set_option maxRecDepth 20000 in
theorem ggX9_strike_X9_isFact : GoodIn wsX9_strike wsX9_isFact := goodIn_r _ [6, 7, 8, 9, 10, 11, 5, 12, 13, 14, 15, 16, 17, 18, 19, 20, 127, 128, 129, 130, 131, 132, 133, 134, 135, 136, 137, 138, 139, 140, 141, 142, 143, 144, 145, 146, 147, 148, 149, 150, 151, 152, 153, 154, 155, 156, 157, 158, 159, 160, 161, 162, 163, 164, 165, 166, 167, 168, 169, 170, 171, 172, 173, 174, 175, 176, 177, 178, 179, 180, 181, 182, 183, 184, 185, 186, 187, 188, 189, 190] rfl rfl
set_option maxRecDepth 20000 in
theorem gX9_strike_X9_isFact : GoodIn wsX9_strike (wsV RX9 359 RX9 yX9_isFact wsX9_isFact) := goodIn_app (goodIn_of _ (by decide +kernel)) ggX9_strike_X9_isFact
set_option maxRecDepth 20000 in
theorem ggX9_strike_X9_bit : GoodIn wsX9_strike wsX9_bit := goodIn_r _ [23] rfl rfl
set_option maxRecDepth 20000 in
theorem gX9_strike_X9_bit : GoodIn wsX9_strike (va_wsS RX9 245 yX9_bit wsX9_bit) := goodIn_app (goodIn_of _ (by decide +kernel)) ggX9_strike_X9_bit
set_option maxRecDepth 20000 in
theorem ggX9_strike_X9_turned : GoodIn wsX9_strike wsX9_turned := goodIn_r _ [27, 1, 28, 29, 30, 5, 31, 32, 33, 34, 35, 36, 37, 38, 39, 40, 41, 42, 43, 44, 45, 46, 47, 48, 49, 50, 51, 52, 53, 54, 55, 8, 56, 57, 58, 59, 60, 21, 22, 23, 61, 62, 63, 64, 65, 66, 67, 68, 69, 70, 71, 72, 73, 74, 75, 76, 77, 78, 79, 80, 81, 82, 83, 84, 85, 86, 87, 88, 89, 90, 91, 92, 93, 94, 95, 96, 97, 98, 99, 100, 101, 102, 103, 104, 7, 105, 106, 107, 108, 109, 110, 111, 112, 113, 114, 13, 14, 15, 16, 17, 2, 3, 4, 6, 9, 10, 11, 12, 18, 19, 20, 115, 116, 117, 118, 119, 120, 121, 122, 123, 124, 125, 126, 127, 128, 129, 130, 131, 132, 133, 134, 135, 136, 137, 138, 139, 140, 141, 142, 143, 144, 145, 146, 147, 148, 149, 150, 151, 152, 153, 154, 155, 156, 157, 158, 159, 160, 161, 162, 163, 164, 165, 166, 167, 168, 169, 170, 171, 172, 173, 174, 175, 176, 177, 178, 179, 180, 181, 182, 183, 184, 185, 186, 187, 188, 189, 190] rfl rfl
set_option maxRecDepth 20000 in
theorem gX9_strike_X9_turned : GoodIn wsX9_strike (wsV RX9 420 RX9 yX9_turned wsX9_turned) := goodIn_app (goodIn_of _ (by decide +kernel)) ggX9_strike_X9_turned
theorem dX9_strike_0 : decode cX9_strike 0 = .ok (.aload_n 0, 1) := by decide +kernel
theorem dX9_strike_1 : decode cX9_strike 1 = .ok (.iconst 0, 1) := by decide +kernel
theorem dX9_strike_2 : decode cX9_strike 2 = .ok (.iload_n 1, 1) := by decide +kernel
theorem dX9_strike_3 : decode cX9_strike 3 = .ok (.aload_n 0, 1) := by decide +kernel
theorem dX9_strike_4 : decode cX9_strike 4 = .ok (.iload_n 1, 1) := by decide +kernel
theorem dX9_strike_5 : decode cX9_strike 5 = .ok (.invokevirtual 359, 3) := by decide +kernel
theorem dX9_strike_8 : decode cX9_strike 8 = .ok (.ifCond .eq 20, 3) := by decide +kernel
theorem dX9_strike_11 : decode cX9_strike 11 = .ok (.aload_n 0, 1) := by decide +kernel
theorem dX9_strike_12 : decode cX9_strike 12 = .ok (.getfield 76, 3) := by decide +kernel
theorem dX9_strike_15 : decode cX9_strike 15 = .ok (.iconst 0, 1) := by decide +kernel
theorem dX9_strike_16 : decode cX9_strike 16 = .ok (.iaload, 1) := by decide +kernel
theorem dX9_strike_17 : decode cX9_strike 17 = .ok (.iload_n 1, 1) := by decide +kernel
theorem dX9_strike_18 : decode cX9_strike 18 = .ok (.invokestatic 245, 3) := by decide +kernel
theorem dX9_strike_21 : decode cX9_strike 21 = .ok (.ifCond .ne 7, 3) := by decide +kernel
theorem dX9_strike_24 : decode cX9_strike 24 = .ok (.iconst 1, 1) := by decide +kernel
theorem dX9_strike_25 : decode cX9_strike 25 = .ok (.goto 4, 3) := by decide +kernel
theorem dX9_strike_28 : decode cX9_strike 28 = .ok (.iconst 0, 1) := by decide +kernel
theorem dX9_strike_29 : decode cX9_strike 29 = .ok (.invokevirtual 420, 3) := by decide +kernel
theorem dX9_strike_32 : decode cX9_strike 32 = .ok (.ireturn, 1) := by decide +kernel
set_option maxRecDepth 20000 in
theorem ggX9_prove_X9_isFact : GoodIn wsX9_prove wsX9_isFact := goodIn_r _ [6, 7, 8, 9, 10, 11, 5, 12, 13, 14, 15, 16, 17, 18, 19, 20, 127, 128, 129, 130, 131, 132, 133, 134, 135, 136, 137, 138, 139, 140, 141, 142, 143, 144, 145, 146, 147, 148, 149, 150, 151, 152, 153, 154, 155, 156, 157, 158, 159, 160, 161, 162, 163, 164, 165, 166, 167, 168, 169, 170, 171, 172, 173, 174, 175, 176, 177, 178, 179, 180, 181, 182, 183, 184, 185, 186, 187, 188, 189, 190] rfl rfl
set_option maxRecDepth 20000 in
theorem gX9_prove_X9_isFact : GoodIn wsX9_prove (wsV RX9 359 RX9 yX9_isFact wsX9_isFact) := goodIn_app (goodIn_of _ (by decide +kernel)) ggX9_prove_X9_isFact
set_option maxRecDepth 20000 in
theorem ggX9_prove_X9_bit : GoodIn wsX9_prove wsX9_bit := goodIn_r _ [23] rfl rfl
set_option maxRecDepth 20000 in
theorem gX9_prove_X9_bit : GoodIn wsX9_prove (va_wsS RX9 245 yX9_bit wsX9_bit) := goodIn_app (goodIn_of _ (by decide +kernel)) ggX9_prove_X9_bit
set_option maxRecDepth 20000 in
theorem ggX9_prove_X9_turned : GoodIn wsX9_prove wsX9_turned := goodIn_r _ [27, 1, 28, 29, 30, 5, 31, 32, 33, 34, 35, 36, 37, 38, 39, 40, 41, 42, 43, 44, 45, 46, 47, 48, 49, 50, 51, 52, 53, 54, 55, 8, 56, 57, 58, 59, 60, 21, 22, 23, 61, 62, 63, 64, 65, 66, 67, 68, 69, 70, 71, 72, 73, 74, 75, 76, 77, 78, 79, 80, 81, 82, 83, 84, 85, 86, 87, 88, 89, 90, 91, 92, 93, 94, 95, 96, 97, 98, 99, 100, 101, 102, 103, 104, 7, 105, 106, 107, 108, 109, 110, 111, 112, 113, 114, 13, 14, 15, 16, 17, 2, 3, 4, 6, 9, 10, 11, 12, 18, 19, 20, 115, 116, 117, 118, 119, 120, 121, 122, 123, 124, 125, 126, 127, 128, 129, 130, 131, 132, 133, 134, 135, 136, 137, 138, 139, 140, 141, 142, 143, 144, 145, 146, 147, 148, 149, 150, 151, 152, 153, 154, 155, 156, 157, 158, 159, 160, 161, 162, 163, 164, 165, 166, 167, 168, 169, 170, 171, 172, 173, 174, 175, 176, 177, 178, 179, 180, 181, 182, 183, 184, 185, 186, 187, 188, 189, 190] rfl rfl
set_option maxRecDepth 20000 in
theorem gX9_prove_X9_turned : GoodIn wsX9_prove (wsV RX9 420 RX9 yX9_turned wsX9_turned) := goodIn_app (goodIn_of _ (by decide +kernel)) ggX9_prove_X9_turned
theorem dX9_prove_0 : decode cX9_prove 0 = .ok (.aload_n 0, 1) := by decide +kernel
theorem dX9_prove_1 : decode cX9_prove 1 = .ok (.iconst 0, 1) := by decide +kernel
theorem dX9_prove_2 : decode cX9_prove 2 = .ok (.iload_n 1, 1) := by decide +kernel
theorem dX9_prove_3 : decode cX9_prove 3 = .ok (.aload_n 0, 1) := by decide +kernel
theorem dX9_prove_4 : decode cX9_prove 4 = .ok (.iload_n 1, 1) := by decide +kernel
theorem dX9_prove_5 : decode cX9_prove 5 = .ok (.invokevirtual 359, 3) := by decide +kernel
theorem dX9_prove_8 : decode cX9_prove 8 = .ok (.ifCond .eq 20, 3) := by decide +kernel
theorem dX9_prove_11 : decode cX9_prove 11 = .ok (.aload_n 0, 1) := by decide +kernel
theorem dX9_prove_12 : decode cX9_prove 12 = .ok (.getfield 76, 3) := by decide +kernel
theorem dX9_prove_15 : decode cX9_prove 15 = .ok (.iconst 0, 1) := by decide +kernel
theorem dX9_prove_16 : decode cX9_prove 16 = .ok (.iaload, 1) := by decide +kernel
theorem dX9_prove_17 : decode cX9_prove 17 = .ok (.iload_n 1, 1) := by decide +kernel
theorem dX9_prove_18 : decode cX9_prove 18 = .ok (.invokestatic 245, 3) := by decide +kernel
theorem dX9_prove_21 : decode cX9_prove 21 = .ok (.ifCond .eq 7, 3) := by decide +kernel
theorem dX9_prove_24 : decode cX9_prove 24 = .ok (.iconst 1, 1) := by decide +kernel
theorem dX9_prove_25 : decode cX9_prove 25 = .ok (.goto 4, 3) := by decide +kernel
theorem dX9_prove_28 : decode cX9_prove 28 = .ok (.iconst 0, 1) := by decide +kernel
theorem dX9_prove_29 : decode cX9_prove 29 = .ok (.invokevirtual 420, 3) := by decide +kernel
theorem dX9_prove_32 : decode cX9_prove 32 = .ok (.ireturn, 1) := by decide +kernel
set_option maxRecDepth 20000 in
theorem ggX9_tighten_X9_isThread : GoodIn wsX9_tighten wsX9_isThread := goodIn_r _ [6, 7, 8, 9, 5, 10, 11, 12, 13, 14, 15, 23, 24, 25, 26, 27, 28, 29, 30, 31, 32, 33, 34, 35, 36, 37, 38, 39, 40, 41, 42, 43, 44, 45, 46, 47, 48, 49, 50, 51, 52, 53, 54, 55, 56, 57, 58, 59, 60, 61, 62, 63, 64, 65, 66, 67, 68, 69, 70, 71, 72, 73, 74, 75, 76, 77, 78, 79, 80, 81, 82, 83, 84, 85, 86] rfl rfl
set_option maxRecDepth 20000 in
theorem gX9_tighten_X9_isThread : GoodIn wsX9_tighten (wsV RX9 408 RX9 yX9_isThread wsX9_isThread) := goodIn_app (goodIn_of _ (by decide +kernel)) ggX9_tighten_X9_isThread
set_option maxRecDepth 20000 in
theorem ggX9_tighten_X9_isIn : GoodIn wsX9_tighten wsX9_isIn := goodIn_r _ [15] rfl rfl
set_option maxRecDepth 20000 in
theorem gX9_tighten_X9_isIn : GoodIn wsX9_tighten (va_wsS RX9 346 yX9_isIn wsX9_isIn) := goodIn_app (goodIn_of _ (by decide +kernel)) ggX9_tighten_X9_isIn
set_option maxRecDepth 20000 in
theorem ggX9_tighten_X9_keepAct : GoodIn wsX9_tighten wsX9_keepAct := goodIn_r _ [19, 20, 21, 1, 22, 23, 24, 25, 26, 27, 28, 29, 30, 31, 32, 33, 34, 35, 36, 37, 38, 39, 40, 41, 42, 43, 44, 45, 46, 47, 48, 49, 50, 51, 52, 53, 54, 55, 56, 57, 58, 59, 60, 61, 62, 63, 64, 65, 66, 67, 68, 69, 70, 71, 72, 73, 74, 75, 76, 77, 78, 79, 80, 81, 82, 83, 84, 85, 86] rfl rfl
set_option maxRecDepth 20000 in
theorem gX9_tighten_X9_keepAct : GoodIn wsX9_tighten (wsV RX9 414 RX9 yX9_keepAct wsX9_keepAct) := goodIn_app (goodIn_of _ (by decide +kernel)) ggX9_tighten_X9_keepAct
theorem dX9_tighten_0 : decode cX9_tighten 0 = .ok (.aload_n 0, 1) := by decide +kernel
theorem dX9_tighten_1 : decode cX9_tighten 1 = .ok (.iload_n 1, 1) := by decide +kernel
theorem dX9_tighten_2 : decode cX9_tighten 2 = .ok (.invokevirtual 408, 3) := by decide +kernel
theorem dX9_tighten_5 : decode cX9_tighten 5 = .ok (.ifCond .eq 25, 3) := by decide +kernel
theorem dX9_tighten_8 : decode cX9_tighten 8 = .ok (.iload_n 2, 1) := by decide +kernel
theorem dX9_tighten_9 : decode cX9_tighten 9 = .ok (.iconst 0, 1) := by decide +kernel
theorem dX9_tighten_10 : decode cX9_tighten 10 = .ok (.bipush 20, 2) := by decide +kernel
theorem dX9_tighten_12 : decode cX9_tighten 12 = .ok (.invokestatic 346, 3) := by decide +kernel
theorem dX9_tighten_15 : decode cX9_tighten 15 = .ok (.ifCond .eq 15, 3) := by decide +kernel
theorem dX9_tighten_18 : decode cX9_tighten 18 = .ok (.aload_n 0, 1) := by decide +kernel
theorem dX9_tighten_19 : decode cX9_tighten 19 = .ok (.getfield 76, 3) := by decide +kernel
theorem dX9_tighten_22 : decode cX9_tighten 22 = .ok (.iconst 2, 1) := by decide +kernel
theorem dX9_tighten_23 : decode cX9_tighten 23 = .ok (.iload_n 1, 1) := by decide +kernel
theorem dX9_tighten_24 : decode cX9_tighten 24 = .ok (.iadd, 1) := by decide +kernel
theorem dX9_tighten_25 : decode cX9_tighten 25 = .ok (.iaload, 1) := by decide +kernel
theorem dX9_tighten_26 : decode cX9_tighten 26 = .ok (.iload_n 2, 1) := by decide +kernel
theorem dX9_tighten_27 : decode cX9_tighten 27 = .ok (.if_icmp .ne 5, 3) := by decide +kernel
theorem dX9_tighten_30 : decode cX9_tighten 30 = .ok (.iconst (-1), 1) := by decide +kernel
theorem dX9_tighten_31 : decode cX9_tighten 31 = .ok (.ireturn, 1) := by decide +kernel
theorem dX9_tighten_32 : decode cX9_tighten 32 = .ok (.aload_n 0, 1) := by decide +kernel
theorem dX9_tighten_33 : decode cX9_tighten 33 = .ok (.invokevirtual 414, 3) := by decide +kernel
theorem dX9_tighten_36 : decode cX9_tighten 36 = .ok (.aload_n 0, 1) := by decide +kernel
theorem dX9_tighten_37 : decode cX9_tighten 37 = .ok (.getfield 76, 3) := by decide +kernel
theorem dX9_tighten_40 : decode cX9_tighten 40 = .ok (.iconst 2, 1) := by decide +kernel
theorem dX9_tighten_41 : decode cX9_tighten 41 = .ok (.iload_n 1, 1) := by decide +kernel
theorem dX9_tighten_42 : decode cX9_tighten 42 = .ok (.iadd, 1) := by decide +kernel
theorem dX9_tighten_43 : decode cX9_tighten 43 = .ok (.iaload, 1) := by decide +kernel
theorem dX9_tighten_44 : decode cX9_tighten 44 = .ok (.istore_n 3, 1) := by decide +kernel
theorem dX9_tighten_45 : decode cX9_tighten 45 = .ok (.aload_n 0, 1) := by decide +kernel
theorem dX9_tighten_46 : decode cX9_tighten 46 = .ok (.getfield 76, 3) := by decide +kernel
theorem dX9_tighten_49 : decode cX9_tighten 49 = .ok (.iconst 2, 1) := by decide +kernel
theorem dX9_tighten_50 : decode cX9_tighten 50 = .ok (.iload_n 1, 1) := by decide +kernel
theorem dX9_tighten_51 : decode cX9_tighten 51 = .ok (.iadd, 1) := by decide +kernel
theorem dX9_tighten_52 : decode cX9_tighten 52 = .ok (.iload_n 2, 1) := by decide +kernel
theorem dX9_tighten_53 : decode cX9_tighten 53 = .ok (.iastore, 1) := by decide +kernel
theorem dX9_tighten_54 : decode cX9_tighten 54 = .ok (.iload_n 3, 1) := by decide +kernel
theorem dX9_tighten_55 : decode cX9_tighten 55 = .ok (.ireturn, 1) := by decide +kernel
set_option maxRecDepth 20000 in
theorem ggX9_goDay_X9_threads : GoodIn wsX9_goDay wsX9_threads := goodIn_r _ [8, 9, 3, 13, 14, 15, 16, 17, 18, 19, 20, 21, 22, 23, 24, 25, 26, 27, 28, 29, 30, 31, 32, 33, 34, 35, 36, 37, 38, 39, 40, 41, 42, 43, 44, 45, 46, 47, 48, 49, 50, 51, 52, 53, 54, 55, 56, 57, 58, 59, 60, 61, 62, 63, 64, 65, 66, 67, 68, 69, 70, 71, 72, 73, 74, 75, 76] rfl rfl
set_option maxRecDepth 20000 in
theorem gX9_goDay_X9_threads : GoodIn wsX9_goDay (wsV RX9 350 RX9 yX9_threads wsX9_threads) := goodIn_app (goodIn_of _ (by decide +kernel)) ggX9_goDay_X9_threads
set_option maxRecDepth 20000 in
theorem ggX9_goDay_X9_bit : GoodIn wsX9_goDay wsX9_bit := goodIn_r _ [12] rfl rfl
set_option maxRecDepth 20000 in
theorem gX9_goDay_X9_bit : GoodIn wsX9_goDay (va_wsS RX9 245 yX9_bit wsX9_bit) := goodIn_app (goodIn_of _ (by decide +kernel)) ggX9_goDay_X9_bit
theorem dX9_goDay_0 : decode cX9_goDay 0 = .ok (.iconst 0, 1) := by decide +kernel
theorem dX9_goDay_1 : decode cX9_goDay 1 = .ok (.istore_n 1, 1) := by decide +kernel
theorem dX9_goDay_2 : decode cX9_goDay 2 = .ok (.iconst 0, 1) := by decide +kernel
theorem dX9_goDay_3 : decode cX9_goDay 3 = .ok (.istore_n 2, 1) := by decide +kernel
theorem dX9_goDay_4 : decode cX9_goDay 4 = .ok (.iload_n 2, 1) := by decide +kernel
theorem dX9_goDay_5 : decode cX9_goDay 5 = .ok (.aload_n 0, 1) := by decide +kernel
theorem dX9_goDay_6 : decode cX9_goDay 6 = .ok (.invokevirtual 350, 3) := by decide +kernel
theorem dX9_goDay_9 : decode cX9_goDay 9 = .ok (.if_icmp .ge 104, 3) := by decide +kernel
theorem dX9_goDay_12 : decode cX9_goDay 12 = .ok (.aload_n 0, 1) := by decide +kernel
theorem dX9_goDay_13 : decode cX9_goDay 13 = .ok (.getfield 76, 3) := by decide +kernel
theorem dX9_goDay_16 : decode cX9_goDay 16 = .ok (.iconst 1, 1) := by decide +kernel
theorem dX9_goDay_17 : decode cX9_goDay 17 = .ok (.iaload, 1) := by decide +kernel
theorem dX9_goDay_18 : decode cX9_goDay 18 = .ok (.iload_n 2, 1) := by decide +kernel
theorem dX9_goDay_19 : decode cX9_goDay 19 = .ok (.invokestatic 245, 3) := by decide +kernel
theorem dX9_goDay_22 : decode cX9_goDay 22 = .ok (.ifCond .eq 85, 3) := by decide +kernel
theorem dX9_goDay_25 : decode cX9_goDay 25 = .ok (.aload_n 0, 1) := by decide +kernel
theorem dX9_goDay_26 : decode cX9_goDay 26 = .ok (.getfield 76, 3) := by decide +kernel
theorem dX9_goDay_29 : decode cX9_goDay 29 = .ok (.iconst 2, 1) := by decide +kernel
theorem dX9_goDay_30 : decode cX9_goDay 30 = .ok (.iload_n 2, 1) := by decide +kernel
theorem dX9_goDay_31 : decode cX9_goDay 31 = .ok (.iadd, 1) := by decide +kernel
theorem dX9_goDay_32 : decode cX9_goDay 32 = .ok (.iaload, 1) := by decide +kernel
theorem dX9_goDay_33 : decode cX9_goDay 33 = .ok (.ifCond .ne 6, 3) := by decide +kernel
theorem dX9_goDay_36 : decode cX9_goDay 36 = .ok (.goto 71, 3) := by decide +kernel
theorem dX9_goDay_39 : decode cX9_goDay 39 = .ok (.aload_n 0, 1) := by decide +kernel
theorem dX9_goDay_40 : decode cX9_goDay 40 = .ok (.getfield 76, 3) := by decide +kernel
theorem dX9_goDay_43 : decode cX9_goDay 43 = .ok (.bipush 15, 2) := by decide +kernel
theorem dX9_goDay_45 : decode cX9_goDay 45 = .ok (.sipush 137, 3) := by decide +kernel
theorem dX9_goDay_48 : decode cX9_goDay 48 = .ok (.aload_n 0, 1) := by decide +kernel
theorem dX9_goDay_49 : decode cX9_goDay 49 = .ok (.getfield 76, 3) := by decide +kernel
theorem dX9_goDay_52 : decode cX9_goDay 52 = .ok (.bipush 15, 2) := by decide +kernel
theorem dX9_goDay_54 : decode cX9_goDay 54 = .ok (.iaload, 1) := by decide +kernel
theorem dX9_goDay_55 : decode cX9_goDay 55 = .ok (.imul, 1) := by decide +kernel
theorem dX9_goDay_56 : decode cX9_goDay 56 = .ok (.bipush 71, 2) := by decide +kernel
theorem dX9_goDay_58 : decode cX9_goDay 58 = .ok (.iadd, 1) := by decide +kernel
theorem dX9_goDay_59 : decode cX9_goDay 59 = .ok (.sipush 1000, 3) := by decide +kernel
theorem dX9_goDay_62 : decode cX9_goDay 62 = .ok (.irem, 1) := by decide +kernel
theorem dX9_goDay_63 : decode cX9_goDay 63 = .ok (.iastore, 1) := by decide +kernel
theorem dX9_goDay_64 : decode cX9_goDay 64 = .ok (.aload_n 0, 1) := by decide +kernel
theorem dX9_goDay_65 : decode cX9_goDay 65 = .ok (.getfield 76, 3) := by decide +kernel
theorem dX9_goDay_68 : decode cX9_goDay 68 = .ok (.bipush 15, 2) := by decide +kernel
theorem dX9_goDay_70 : decode cX9_goDay 70 = .ok (.iaload, 1) := by decide +kernel
theorem dX9_goDay_71 : decode cX9_goDay 71 = .ok (.bipush 100, 2) := by decide +kernel
theorem dX9_goDay_73 : decode cX9_goDay 73 = .ok (.irem, 1) := by decide +kernel
theorem dX9_goDay_74 : decode cX9_goDay 74 = .ok (.aload_n 0, 1) := by decide +kernel
theorem dX9_goDay_75 : decode cX9_goDay 75 = .ok (.getfield 30, 3) := by decide +kernel
theorem dX9_goDay_78 : decode cX9_goDay 78 = .ok (.aload_n 0, 1) := by decide +kernel
theorem dX9_goDay_79 : decode cX9_goDay 79 = .ok (.getfield 239, 3) := by decide +kernel
theorem dX9_goDay_82 : decode cX9_goDay 82 = .ok (.iaload, 1) := by decide +kernel
theorem dX9_goDay_83 : decode cX9_goDay 83 = .ok (.if_icmp .lt 6, 3) := by decide +kernel
theorem dX9_goDay_86 : decode cX9_goDay 86 = .ok (.goto 21, 3) := by decide +kernel
theorem dX9_goDay_89 : decode cX9_goDay 89 = .ok (.aload_n 0, 1) := by decide +kernel
theorem dX9_goDay_90 : decode cX9_goDay 90 = .ok (.getfield 76, 3) := by decide +kernel
theorem dX9_goDay_93 : decode cX9_goDay 93 = .ok (.iconst 2, 1) := by decide +kernel
theorem dX9_goDay_94 : decode cX9_goDay 94 = .ok (.iload_n 2, 1) := by decide +kernel
theorem dX9_goDay_95 : decode cX9_goDay 95 = .ok (.iadd, 1) := by decide +kernel
theorem dX9_goDay_96 : decode cX9_goDay 96 = .ok (.dup2, 1) := by decide +kernel
theorem dX9_goDay_97 : decode cX9_goDay 97 = .ok (.iaload, 1) := by decide +kernel
theorem dX9_goDay_98 : decode cX9_goDay 98 = .ok (.iconst 1, 1) := by decide +kernel
theorem dX9_goDay_99 : decode cX9_goDay 99 = .ok (.isub, 1) := by decide +kernel
theorem dX9_goDay_100 : decode cX9_goDay 100 = .ok (.iastore, 1) := by decide +kernel
theorem dX9_goDay_101 : decode cX9_goDay 101 = .ok (.iload_n 1, 1) := by decide +kernel
theorem dX9_goDay_102 : decode cX9_goDay 102 = .ok (.iconst 1, 1) := by decide +kernel
theorem dX9_goDay_103 : decode cX9_goDay 103 = .ok (.iload_n 2, 1) := by decide +kernel
theorem dX9_goDay_104 : decode cX9_goDay 104 = .ok (.ishl, 1) := by decide +kernel
theorem dX9_goDay_105 : decode cX9_goDay 105 = .ok (.ior, 1) := by decide +kernel
theorem dX9_goDay_106 : decode cX9_goDay 106 = .ok (.istore_n 1, 1) := by decide +kernel
theorem dX9_goDay_107 : decode cX9_goDay 107 = .ok (.iinc 2 1, 3) := by decide +kernel
theorem dX9_goDay_110 : decode cX9_goDay 110 = .ok (.goto (-106), 3) := by decide +kernel
theorem dX9_goDay_113 : decode cX9_goDay 113 = .ok (.iload_n 1, 1) := by decide +kernel
theorem dX9_goDay_114 : decode cX9_goDay 114 = .ok (.ireturn, 1) := by decide +kernel
set_option maxRecDepth 20000 in
theorem ggX9_day_X9_keepAct : GoodIn wsX9_day wsX9_keepAct := goodIn_r _ [6, 7, 8, 1, 9, 24, 25, 26, 27, 28, 29, 30, 31, 32, 33, 34, 35, 36, 37, 38, 39, 40, 41, 42, 43, 44, 45, 46, 47, 48, 49, 50, 51, 52, 53, 54, 55, 56, 57, 58, 59, 60, 61, 62, 63, 64, 65, 66, 67, 68, 69, 70, 71, 72, 73, 74, 75, 76, 77, 78, 79, 80, 81, 82, 83, 84, 85, 86, 87] rfl rfl
set_option maxRecDepth 20000 in
theorem gX9_day_X9_keepAct : GoodIn wsX9_day (wsV RX9 414 RX9 yX9_keepAct wsX9_keepAct) := goodIn_app (goodIn_of _ (by decide +kernel)) ggX9_day_X9_keepAct
set_option maxRecDepth 20000 in
theorem ggX9_day_X9_goDay : GoodIn wsX9_day wsX9_goDay := goodIn_r _ [13, 1, 14, 15, 16, 17, 18, 5, 19, 20, 21, 22, 23, 24, 25, 26, 27, 28, 29, 30, 31, 32, 33, 34, 35, 36, 37, 38, 39, 40, 41, 42, 43, 44, 45, 46, 47, 48, 49, 50, 51, 52, 53, 54, 55, 56, 57, 58, 59, 60, 61, 62, 63, 64, 65, 66, 67, 68, 69, 70, 71, 72, 73, 74, 75, 76, 77, 78, 79, 80, 81, 82, 83, 84, 85, 86, 87] rfl rfl
set_option maxRecDepth 20000 in
theorem gX9_day_X9_goDay : GoodIn wsX9_day (wsV RX9 424 RX9 yX9_goDay wsX9_goDay) := goodIn_app (goodIn_of _ (by decide +kernel)) ggX9_day_X9_goDay
theorem dX9_day_0 : decode cX9_day 0 = .ok (.aload_n 0, 1) := by decide +kernel
theorem dX9_day_1 : decode cX9_day 1 = .ok (.getfield 76, 3) := by decide +kernel
theorem dX9_day_4 : decode cX9_day 4 = .ok (.bipush 14, 2) := by decide +kernel
theorem dX9_day_6 : decode cX9_day 6 = .ok (.iaload, 1) := by decide +kernel
theorem dX9_day_7 : decode cX9_day 7 = .ok (.sipush 999, 3) := by decide +kernel
theorem dX9_day_10 : decode cX9_day 10 = .ok (.if_icmp .ne 5, 3) := by decide +kernel
theorem dX9_day_13 : decode cX9_day 13 = .ok (.iconst (-1), 1) := by decide +kernel
theorem dX9_day_14 : decode cX9_day 14 = .ok (.ireturn, 1) := by decide +kernel
theorem dX9_day_15 : decode cX9_day 15 = .ok (.aload_n 0, 1) := by decide +kernel
theorem dX9_day_16 : decode cX9_day 16 = .ok (.invokevirtual 414, 3) := by decide +kernel
theorem dX9_day_19 : decode cX9_day 19 = .ok (.aload_n 0, 1) := by decide +kernel
theorem dX9_day_20 : decode cX9_day 20 = .ok (.getfield 76, 3) := by decide +kernel
theorem dX9_day_23 : decode cX9_day 23 = .ok (.bipush 14, 2) := by decide +kernel
theorem dX9_day_25 : decode cX9_day 25 = .ok (.dup2, 1) := by decide +kernel
theorem dX9_day_26 : decode cX9_day 26 = .ok (.iaload, 1) := by decide +kernel
theorem dX9_day_27 : decode cX9_day 27 = .ok (.iconst 1, 1) := by decide +kernel
theorem dX9_day_28 : decode cX9_day 28 = .ok (.iadd, 1) := by decide +kernel
theorem dX9_day_29 : decode cX9_day 29 = .ok (.iastore, 1) := by decide +kernel
theorem dX9_day_30 : decode cX9_day 30 = .ok (.aload_n 0, 1) := by decide +kernel
theorem dX9_day_31 : decode cX9_day 31 = .ok (.invokevirtual 424, 3) := by decide +kernel
theorem dX9_day_34 : decode cX9_day 34 = .ok (.ireturn, 1) := by decide +kernel
set_option maxRecDepth 20000 in
theorem ggX9_undo_X9_swapAll : GoodIn wsX9_undo wsX9_swapAll := goodIn_r _ [7, 8, 1, 9, 10, 11, 12, 13, 14, 15, 16, 17, 18, 19, 20, 21, 22, 23, 24, 25, 26, 27, 28, 29, 30, 31, 32, 33, 34, 35, 36, 37, 38, 39, 40, 41, 42, 43, 44, 45, 46, 47, 48, 49, 50, 51, 52, 53, 54, 55, 56, 57, 58, 59, 60, 61, 62, 63, 64, 65, 66, 67, 68, 69, 70, 71, 72, 73] rfl rfl
set_option maxRecDepth 20000 in
theorem gX9_undo_X9_swapAll : GoodIn wsX9_undo (wsV RX9 427 RX9 yX9_swapAll wsX9_swapAll) := goodIn_app (goodIn_of _ (by decide +kernel)) ggX9_undo_X9_swapAll
theorem dX9_undo_0 : decode cX9_undo 0 = .ok (.aload_n 0, 1) := by decide +kernel
theorem dX9_undo_1 : decode cX9_undo 1 = .ok (.getfield 368, 3) := by decide +kernel
theorem dX9_undo_4 : decode cX9_undo 4 = .ok (.ifCond .ne 5, 3) := by decide +kernel
theorem dX9_undo_7 : decode cX9_undo 7 = .ok (.iconst 0, 1) := by decide +kernel
theorem dX9_undo_8 : decode cX9_undo 8 = .ok (.ireturn, 1) := by decide +kernel
theorem dX9_undo_9 : decode cX9_undo 9 = .ok (.aload_n 0, 1) := by decide +kernel
theorem dX9_undo_10 : decode cX9_undo 10 = .ok (.dup, 1) := by decide +kernel
theorem dX9_undo_11 : decode cX9_undo 11 = .ok (.getfield 368, 3) := by decide +kernel
theorem dX9_undo_14 : decode cX9_undo 14 = .ok (.iconst 1, 1) := by decide +kernel
theorem dX9_undo_15 : decode cX9_undo 15 = .ok (.isub, 1) := by decide +kernel
theorem dX9_undo_16 : decode cX9_undo 16 = .ok (.putfield 368, 3) := by decide +kernel
theorem dX9_undo_19 : decode cX9_undo 19 = .ok (.aload_n 0, 1) := by decide +kernel
theorem dX9_undo_20 : decode cX9_undo 20 = .ok (.dup, 1) := by decide +kernel
theorem dX9_undo_21 : decode cX9_undo 21 = .ok (.getfield 371, 3) := by decide +kernel
theorem dX9_undo_24 : decode cX9_undo 24 = .ok (.iconst 1, 1) := by decide +kernel
theorem dX9_undo_25 : decode cX9_undo 25 = .ok (.iadd, 1) := by decide +kernel
theorem dX9_undo_26 : decode cX9_undo 26 = .ok (.putfield 371, 3) := by decide +kernel
theorem dX9_undo_29 : decode cX9_undo 29 = .ok (.aload_n 0, 1) := by decide +kernel
theorem dX9_undo_30 : decode cX9_undo 30 = .ok (.invokevirtual 427, 3) := by decide +kernel
theorem dX9_undo_33 : decode cX9_undo 33 = .ok (.iconst 1, 1) := by decide +kernel
theorem dX9_undo_34 : decode cX9_undo 34 = .ok (.ireturn, 1) := by decide +kernel
set_option maxRecDepth 20000 in
theorem ggX9_redo_X9_swapAll : GoodIn wsX9_redo wsX9_swapAll := goodIn_r _ [7, 8, 2, 9, 10, 11, 12, 13, 14, 15, 16, 17, 18, 19, 20, 21, 22, 23, 24, 25, 26, 27, 28, 29, 30, 31, 32, 33, 34, 35, 36, 37, 38, 39, 40, 41, 42, 43, 44, 45, 46, 47, 48, 49, 50, 51, 52, 53, 54, 55, 56, 57, 58, 59, 60, 61, 62, 63, 64, 65, 66, 67, 68, 69, 70, 71, 72, 73] rfl rfl
set_option maxRecDepth 20000 in
theorem gX9_redo_X9_swapAll : GoodIn wsX9_redo (wsV RX9 427 RX9 yX9_swapAll wsX9_swapAll) := goodIn_app (goodIn_of _ (by decide +kernel)) ggX9_redo_X9_swapAll
theorem dX9_redo_0 : decode cX9_redo 0 = .ok (.aload_n 0, 1) := by decide +kernel
theorem dX9_redo_1 : decode cX9_redo 1 = .ok (.getfield 371, 3) := by decide +kernel
theorem dX9_redo_4 : decode cX9_redo 4 = .ok (.ifCond .ne 5, 3) := by decide +kernel
theorem dX9_redo_7 : decode cX9_redo 7 = .ok (.iconst 0, 1) := by decide +kernel
theorem dX9_redo_8 : decode cX9_redo 8 = .ok (.ireturn, 1) := by decide +kernel
theorem dX9_redo_9 : decode cX9_redo 9 = .ok (.aload_n 0, 1) := by decide +kernel
theorem dX9_redo_10 : decode cX9_redo 10 = .ok (.invokevirtual 427, 3) := by decide +kernel
theorem dX9_redo_13 : decode cX9_redo 13 = .ok (.aload_n 0, 1) := by decide +kernel
theorem dX9_redo_14 : decode cX9_redo 14 = .ok (.dup, 1) := by decide +kernel
theorem dX9_redo_15 : decode cX9_redo 15 = .ok (.getfield 368, 3) := by decide +kernel
theorem dX9_redo_18 : decode cX9_redo 18 = .ok (.iconst 1, 1) := by decide +kernel
theorem dX9_redo_19 : decode cX9_redo 19 = .ok (.iadd, 1) := by decide +kernel
theorem dX9_redo_20 : decode cX9_redo 20 = .ok (.putfield 368, 3) := by decide +kernel
theorem dX9_redo_23 : decode cX9_redo 23 = .ok (.aload_n 0, 1) := by decide +kernel
theorem dX9_redo_24 : decode cX9_redo 24 = .ok (.dup, 1) := by decide +kernel
theorem dX9_redo_25 : decode cX9_redo 25 = .ok (.getfield 371, 3) := by decide +kernel
theorem dX9_redo_28 : decode cX9_redo 28 = .ok (.iconst 1, 1) := by decide +kernel
theorem dX9_redo_29 : decode cX9_redo 29 = .ok (.isub, 1) := by decide +kernel
theorem dX9_redo_30 : decode cX9_redo 30 = .ok (.putfield 371, 3) := by decide +kernel
theorem dX9_redo_33 : decode cX9_redo 33 = .ok (.iconst 1, 1) := by decide +kernel
theorem dX9_redo_34 : decode cX9_redo 34 = .ok (.ireturn, 1) := by decide +kernel
theorem in_X9_standNow_X9 : ∀ w ∈ wsX90, w ∈ wsX9_standNow := fun _ h => List.mem_cons_of_mem _ (List.mem_append_right _ h)
theorem in_X9_keepAct_X9 : ∀ w ∈ wsX90, w ∈ wsX9_keepAct := fun _ h => List.mem_cons_of_mem _ (List.mem_append_right _ h)
theorem in_X9_turned_X9 : ∀ w ∈ wsX90, w ∈ wsX9_turned := fun _ h => List.mem_cons_of_mem _ (List.mem_append_right _ h)
theorem in_X9_cut_X9 : ∀ w ∈ wsX90, w ∈ wsX9_cut := fun _ h => List.mem_cons_of_mem _ (List.mem_append_right _ h)
theorem in_X9_tie_X9 : ∀ w ∈ wsX90, w ∈ wsX9_tie := fun _ h => List.mem_cons_of_mem _ (List.mem_append_right _ h)
theorem in_X9_tighten_X9 : ∀ w ∈ wsX90, w ∈ wsX9_tighten := fun _ h => List.mem_cons_of_mem _ (List.mem_append_right _ h)
theorem in_X9_strike_X9 : ∀ w ∈ wsX90, w ∈ wsX9_strike := fun _ h => List.mem_cons_of_mem _ (List.mem_append_right _ h)
theorem in_X9_prove_X9 : ∀ w ∈ wsX90, w ∈ wsX9_prove := fun _ h => List.mem_cons_of_mem _ (List.mem_append_right _ h)
theorem in_X9_goDay_X9 : ∀ w ∈ wsX90, w ∈ wsX9_goDay := fun _ h => List.mem_cons_of_mem _ (List.mem_append_right _ h)
theorem in_X9_day_X9 : ∀ w ∈ wsX90, w ∈ wsX9_day := fun _ h => List.mem_cons_of_mem _ (List.mem_append_right _ h)
theorem in_X9_swapAll_X9 : ∀ w ∈ wsX90, w ∈ wsX9_swapAll := fun _ h => List.mem_cons_of_mem _ (List.mem_append_right _ h)
theorem in_X9_undo_X9 : ∀ w ∈ wsX90, w ∈ wsX9_undo := fun _ h => List.mem_cons_of_mem _ (List.mem_append_right _ h)
theorem in_X9_redo_X9 : ∀ w ∈ wsX90, w ∈ wsX9_redo := fun _ h => List.mem_cons_of_mem _ (List.mem_append_right _ h)
set_option maxHeartbeats 4000000 in
set_option maxRecDepth 100000 in
theorem s_X9_standNow_0 (l : Launch) (B0 : Nat) (adK adV : Nat → Nat) (D : va_G) (cy : Nat → ClassId) (ad : Nat → Nat) (fr0 : Nat → va_E) (c_text : Nat → Int32) (m_taped : Int32) (m_size : Int32) (m_faultKind : Int32) (m_faultPlace : Int32) (m_at : Int32) (m_end : Int32) (m_token : Int32) (m_number : Int32) (m_name : Int64) (c_points : Nat → Int32) (c_strands : Nat → Int32) (c_units : Nat → Int32) (c_told : Nat → Int32) (c_ruleFrom : Nat → Int32) (c_ruleTo : Nat → Int32) (c_code : Nat → Int32) (c_eWhat : Nat → Int32) (c_eSign : Nat → Int32) (m_bank : Int32) (m_rb : Int32) (m_codes : Int32) (m_within : Int32) (m_piled : Int32) (m_unitsInRule : Int32) (m_askStrand : Int32) (m_askTied : Int32) (m_thoughtClaim : Int32) (m_thoughtNeed : Int32) (m_thoughtAll : Int32) (c_roundOf : Nat → Int32) (m_acts : Int32) (m_undone : Int32) (m_laid : Int32) (m_firstMove : Int32) (m_seens : Int32) (m_time : Int32) (m_waysNow : Int32) (m_fitting : Int32) (f : Nat → va_E) (hT : TYm ad cy fr0 c_text m_taped m_size m_faultKind m_faultPlace m_at m_end m_token m_number m_name c_points c_strands c_units c_told c_ruleFrom c_ruleTo c_code c_eWhat c_eSign m_bank m_rb m_codes m_within m_piled m_unitsInRule m_askStrand m_askTied m_thoughtClaim m_thoughtNeed m_thoughtAll c_roundOf m_acts m_undone m_laid m_firstMove m_seens m_time m_waysNow m_fitting f) (hCV : CVp c_told c_ruleFrom c_ruleTo c_code m_bank) (sz : Nat) : TtI l yX9_standNow wsX9_standNow 6 138 [.ref (ad 148)] B0 adK adV D cy ad f sz (fun (r : Int32) (g : Nat → va_E) => (0 ≤ r.toInt ∧ r.toInt ≤ 4095) ∧ (∃ (m_askStrand' : Int32) (m_askTied' : Int32) (c_roundOf' : Nat → Int32), TYm ad cy fr0 c_text m_taped m_size m_faultKind m_faultPlace m_at m_end m_token m_number m_name c_points c_strands c_units c_told c_ruleFrom c_ruleTo c_code c_eWhat c_eSign m_bank m_rb m_codes m_within m_piled m_unitsInRule m_askStrand' m_askTied' m_thoughtClaim m_thoughtNeed m_thoughtAll c_roundOf' m_acts m_undone m_laid m_firstMove m_seens m_time m_waysNow m_fitting g ∧ (0 ≤ m_askTied'.toInt ∧ m_askTied'.toInt ≤ 4095))) := by
  refine TtI.of (cc := cX9_standNow) (maxL := 1) (ty := .int) (own := RX9) (by decide) rfl (Nat.le_of_ble_eq_true rfl) rfl ?_
  intro p e s m below meth c A ls hx hb hr hml hts hown hlk hK hE hP hD hS hA hAB hl
  have hl : lv_has ls 1 [(0, .ref (ad 148))] := hl
  refine st0 (fun H locs hP hS => ?_) hP hS
  refine lv_aload_n hx hb dX9_standNow_0 rfl (lv_at hl 0 rfl) ?_
  refine lv_aload_n hx hb dX9_standNow_1 rfl (lv_at hl 0 rfl) ?_
  obtain ⟨e16, h1, h2, h3, h4, h5, h6, h7, h8, h9, h10, h11, h12, h13, h14, h15⟩ := (show okX9 ad m_taped m_size m_faultKind m_faultPlace m_at m_end m_token m_number m_name m_bank m_rb m_codes m_within m_piled m_unitsInRule m_askStrand m_askTied m_thoughtClaim m_thoughtNeed m_thoughtAll m_acts m_undone m_laid m_firstMove m_seens m_time m_waysNow m_fitting 148 (f 148) from hT.1 148 (by decide))
  refine va_get (D := D) (cl := vwCl) (ci := 9) (v := .ref (ad 169)) (C := RX9) (T := TX9) (N := 64) hx hb hts in_X9_standNow_X9 hown hK hP 148 (wl_at (by decide) e16) rfl 37 (by decide) (hts (.fieldLink RX9 76 "EightReasonsModel" "all" "[I") (List.mem_of_getElem? (i := 1) rfl)) (fun _ h9 => h9) rfl dX9_standNow_2 ?_
  refine lv_iconst (v := 0) hx hb dX9_standNow_5 (by decide) ?_
  obtain ⟨g19, e17, h18⟩ := (show okIr cy 16 (0) (4095) 16 1 (f 169) from hT.1 169 (by decide))
  have ttl_0 := tl_0
  refine va_iald hx hb hK hP 169 0 (wl_at (by decide) e17) rfl (vin (by decide)) dX9_standNow_6 ?_
  refine lv_topi (fun x20 ex20 => ?_)
  refine lv_aload_n hx hb dX9_standNow_7 rfl (lv_at hl 0 rfl) ?_
  refine va_get (D := D) (cl := vwCl) (ci := 9) (v := .ref (ad 169)) (C := RX9) (T := TX9) (N := 64) hx hb hts in_X9_standNow_X9 hown hK hP 148 (wl_at (by decide) e16) rfl 37 (by decide) (hts (.fieldLink RX9 76 "EightReasonsModel" "all" "[I") (List.mem_of_getElem? (i := 1) rfl)) (fun _ h9 => h9) rfl dX9_standNow_8 ?_
  refine lv_iconst (v := 1) hx hb dX9_standNow_11 (by decide) ?_
  have ttl_1 := tl_1
  refine va_iald hx hb hK hP 169 0 (wl_at (by decide) e17) rfl (vin (by decide)) dX9_standNow_12 ?_
  refine lv_topi (fun x21 ex21 => ?_)
  have hx21 := r_el (h18 _ (by decide)) ex21
  refine tVI (As := [.int x20, .int x21]) (rest := []) (i := 148) ⟨hx, hb, hml, hown, hts⟩ hK hE hP hD hS hA hAB (s_X9_standBy_0 l B0 adK adV D cy ad fr0 c_text m_taped m_size m_faultKind m_faultPlace m_at m_end m_token m_number m_name c_points c_strands c_units c_told c_ruleFrom c_ruleTo c_code c_eWhat c_eSign m_bank m_rb m_codes m_within m_piled m_unitsInRule m_askStrand m_askTied m_thoughtClaim m_thoughtNeed m_thoughtAll c_roundOf m_acts m_undone m_laid m_firstMove m_seens m_time m_waysNow m_fitting f hT x20 x21 (by omega) hCV _) (cwV 2 hts gX9_standNow_X9_standBy rfl rfl rfl (by decide +kernel) ⟨Nat.le_of_ble_eq_true rfl, Nat.le_of_ble_eq_true rfl⟩) (by decide) 9 e16 rfl rfl hl.1 rfl (Nat.le_of_ble_eq_true rfl) dX9_standNow_13 ⟨Nat.le_of_ble_eq_true rfl, Nat.le_of_ble_eq_true rfl⟩ (fun r f H locs hw hP hD hS => ?_)
  obtain ⟨hrs, x22, x23, y24, hT, h25⟩ := hw
  obtain ⟨x26, rfl⟩ : ∃ q, q = r := ⟨_, rfl⟩
  have h27 := hrs
  exact tI hx hb hr hlk rfl hP hS ⟨(by omega), ⟨x22, x23, y24, hT, by omega⟩⟩ dX9_standNow_16
set_option maxHeartbeats 4000000 in
set_option maxRecDepth 100000 in
theorem s_X9_claimsNow_0 (l : Launch) (B0 : Nat) (adK adV : Nat → Nat) (D : va_G) (cy : Nat → ClassId) (ad : Nat → Nat) (fr0 : Nat → va_E) (c_text : Nat → Int32) (m_taped : Int32) (m_size : Int32) (m_faultKind : Int32) (m_faultPlace : Int32) (m_at : Int32) (m_end : Int32) (m_token : Int32) (m_number : Int32) (m_name : Int64) (c_points : Nat → Int32) (c_strands : Nat → Int32) (c_units : Nat → Int32) (c_told : Nat → Int32) (c_ruleFrom : Nat → Int32) (c_ruleTo : Nat → Int32) (c_code : Nat → Int32) (c_eWhat : Nat → Int32) (c_eSign : Nat → Int32) (m_bank : Int32) (m_rb : Int32) (m_codes : Int32) (m_within : Int32) (m_piled : Int32) (m_unitsInRule : Int32) (m_askStrand : Int32) (m_askTied : Int32) (m_thoughtClaim : Int32) (m_thoughtNeed : Int32) (m_thoughtAll : Int32) (c_roundOf : Nat → Int32) (m_acts : Int32) (m_undone : Int32) (m_laid : Int32) (m_firstMove : Int32) (m_seens : Int32) (m_time : Int32) (m_waysNow : Int32) (m_fitting : Int32) (f : Nat → va_E) (hT : TYm ad cy fr0 c_text m_taped m_size m_faultKind m_faultPlace m_at m_end m_token m_number m_name c_points c_strands c_units c_told c_ruleFrom c_ruleTo c_code c_eWhat c_eSign m_bank m_rb m_codes m_within m_piled m_unitsInRule m_askStrand m_askTied m_thoughtClaim m_thoughtNeed m_thoughtAll c_roundOf m_acts m_undone m_laid m_firstMove m_seens m_time m_waysNow m_fitting f) (hCV : CVp c_told c_ruleFrom c_ruleTo c_code m_bank) (sz : Nat) : TtI l yX9_claimsNow wsX9_claimsNow 7 158 [.ref (ad 148)] B0 adK adV D cy ad f sz (fun (r : Int32) (g : Nat → va_E) => (0 ≤ r.toInt ∧ r.toInt ≤ 32) ∧ (∃ (m_askStrand' : Int32) (m_askTied' : Int32) (c_roundOf' : Nat → Int32), TYm ad cy fr0 c_text m_taped m_size m_faultKind m_faultPlace m_at m_end m_token m_number m_name c_points c_strands c_units c_told c_ruleFrom c_ruleTo c_code c_eWhat c_eSign m_bank m_rb m_codes m_within m_piled m_unitsInRule m_askStrand' m_askTied' m_thoughtClaim m_thoughtNeed m_thoughtAll c_roundOf' m_acts m_undone m_laid m_firstMove m_seens m_time m_waysNow m_fitting g ∧ (0 ≤ m_askTied'.toInt ∧ m_askTied'.toInt ≤ 4095))) := by
  refine TtI.of (cc := cX9_claimsNow) (maxL := 1) (ty := .int) (own := RX9) (by decide) rfl (Nat.le_of_ble_eq_true rfl) rfl ?_
  intro p e s m below meth c A ls hx hb hr hml hts hown hlk hK hE hP hD hS hA hAB hl
  have hl : lv_has ls 1 [(0, .ref (ad 148))] := hl
  refine st0 (fun H locs hP hS => ?_) hP hS
  refine lv_aload_n hx hb dX9_claimsNow_0 rfl (lv_at hl 0 rfl) ?_
  obtain ⟨e16, h1, h2, h3, h4, h5, h6, h7, h8, h9, h10, h11, h12, h13, h14, h15⟩ := (show okX9 ad m_taped m_size m_faultKind m_faultPlace m_at m_end m_token m_number m_name m_bank m_rb m_codes m_within m_piled m_unitsInRule m_askStrand m_askTied m_thoughtClaim m_thoughtNeed m_thoughtAll m_acts m_undone m_laid m_firstMove m_seens m_time m_waysNow m_fitting 148 (f 148) from hT.1 148 (by decide))
  refine tVI (As := []) (rest := []) (i := 148) ⟨hx, hb, hml, hown, hts⟩ hK hE hP hD hS hA hAB (s_X9_standNow_0 l B0 adK adV D cy ad fr0 c_text m_taped m_size m_faultKind m_faultPlace m_at m_end m_token m_number m_name c_points c_strands c_units c_told c_ruleFrom c_ruleTo c_code c_eWhat c_eSign m_bank m_rb m_codes m_within m_piled m_unitsInRule m_askStrand m_askTied m_thoughtClaim m_thoughtNeed m_thoughtAll c_roundOf m_acts m_undone m_laid m_firstMove m_seens m_time m_waysNow m_fitting f hT hCV _) (cwV 0 hts gX9_claimsNow_X9_standNow rfl rfl rfl (by decide +kernel) ⟨Nat.le_of_ble_eq_true rfl, Nat.le_of_ble_eq_true rfl⟩) (by decide) 9 e16 rfl rfl hl.1 rfl (Nat.le_of_ble_eq_true rfl) dX9_claimsNow_1 ⟨Nat.le_of_ble_eq_true rfl, Nat.le_of_ble_eq_true rfl⟩ (fun r f H locs hw hP hD hS => ?_)
  obtain ⟨hrs, x17, x18, y19, hT, h20⟩ := hw
  obtain ⟨x21, rfl⟩ : ∃ q, q = r := ⟨_, rfl⟩
  have h22 := hrs
  refine lv_aload_n hx hb dX9_claimsNow_4 rfl (lv_at hl 0 rfl) ?_
  obtain ⟨e38, h23, h24, h25, h26, h27, h28, h29, h30, h31, h32, h33, h34, h35, h36, h37⟩ := (show okX9 ad m_taped m_size m_faultKind m_faultPlace m_at m_end m_token m_number m_name m_bank m_rb m_codes m_within m_piled m_unitsInRule x17 x18 m_thoughtClaim m_thoughtNeed m_thoughtAll m_acts m_undone m_laid m_firstMove m_seens m_time m_waysNow m_fitting 148 (f 148) from hT.1 148 (by decide))
  refine tVI (As := []) (rest := [.int x21]) (i := 148) ⟨hx, hb, hml, hown, hts⟩ hK hE hP hD hS hA hAB (s_X9_claims_0 l B0 adK adV D cy ad fr0 c_text m_taped m_size m_faultKind m_faultPlace m_at m_end m_token m_number m_name c_points c_strands c_units c_told c_ruleFrom c_ruleTo c_code c_eWhat c_eSign m_bank m_rb m_codes m_within m_piled m_unitsInRule x17 x18 m_thoughtClaim m_thoughtNeed m_thoughtAll y19 m_acts m_undone m_laid m_firstMove m_seens m_time m_waysNow m_fitting f hT _) (cwV 0 hts gX9_claimsNow_X9_claims rfl rfl rfl (by decide +kernel) ⟨Nat.le_of_ble_eq_true rfl, Nat.le_of_ble_eq_true rfl⟩) (by decide) 9 e38 rfl rfl hl.1 rfl (Nat.le_of_ble_eq_true rfl) dX9_claimsNow_5 ⟨Nat.le_of_ble_eq_true rfl, Nat.le_of_ble_eq_true rfl⟩ (fun r g H locs hw hP hD hS => ?_)
  obtain ⟨hrs, rfl⟩ := hw
  obtain ⟨x39, rfl⟩ : ∃ q, q = r := ⟨_, rfl⟩
  have h40 := hrs
  refine lv_iand hx hb dX9_claimsNow_8 ?_
  refine lv_topi (fun x41 ex41 => ?_)
  have hx41 := r_andr ex41 (by omega)
  refine tSI (As := [.int x41]) (rest := []) ⟨hx, hb, hml, hown, hts⟩ hK hE hP hD hS hA hAB (s_X9_bitsOf_0 l B0 adK adV D cy ad f x41 (by omega) _) (va_cwS 1 hts gX9_claimsNow_X9_bitsOf rfl rfl rfl (by decide +kernel) ⟨Nat.le_of_ble_eq_true rfl, Nat.le_of_ble_eq_true rfl⟩) rfl hl.1 rfl (Nat.le_of_ble_eq_true rfl) dX9_claimsNow_9 ⟨Nat.le_of_ble_eq_true rfl, Nat.le_of_ble_eq_true rfl⟩ (fun r g H locs hw hP hD hS => ?_)
  obtain ⟨hrs, rfl⟩ := hw
  obtain ⟨x42, rfl⟩ : ∃ q, q = r := ⟨_, rfl⟩
  have h43 := hrs
  exact tI hx hb hr hlk rfl hP hS ⟨(by omega), ⟨x17, x18, y19, hT, by omega⟩⟩ dX9_claimsNow_12
set_option maxHeartbeats 4000000 in
set_option maxRecDepth 100000 in
theorem s_X9_keepAct_0 (l : Launch) (B0 : Nat) (adK adV : Nat → Nat) (D : va_G) (cy : Nat → ClassId) (ad : Nat → Nat) (fr0 : Nat → va_E) (c_text : Nat → Int32) (m_taped : Int32) (m_size : Int32) (m_faultKind : Int32) (m_faultPlace : Int32) (m_at : Int32) (m_end : Int32) (m_token : Int32) (m_number : Int32) (m_name : Int64) (c_points : Nat → Int32) (c_strands : Nat → Int32) (c_units : Nat → Int32) (c_told : Nat → Int32) (c_ruleFrom : Nat → Int32) (c_ruleTo : Nat → Int32) (c_code : Nat → Int32) (c_eWhat : Nat → Int32) (c_eSign : Nat → Int32) (m_bank : Int32) (m_rb : Int32) (m_codes : Int32) (m_within : Int32) (m_piled : Int32) (m_unitsInRule : Int32) (m_askStrand : Int32) (m_askTied : Int32) (m_thoughtClaim : Int32) (m_thoughtNeed : Int32) (m_thoughtAll : Int32) (c_roundOf : Nat → Int32) (m_acts : Int32) (m_undone : Int32) (m_laid : Int32) (m_firstMove : Int32) (m_seens : Int32) (m_time : Int32) (m_waysNow : Int32) (m_fitting : Int32) (f : Nat → va_E) (hT : TYm ad cy fr0 c_text m_taped m_size m_faultKind m_faultPlace m_at m_end m_token m_number m_name c_points c_strands c_units c_told c_ruleFrom c_ruleTo c_code c_eWhat c_eSign m_bank m_rb m_codes m_within m_piled m_unitsInRule m_askStrand m_askTied m_thoughtClaim m_thoughtNeed m_thoughtAll c_roundOf m_acts m_undone m_laid m_firstMove m_seens m_time m_waysNow m_fitting f) (sz : Nat) : TtV l yX9_keepAct wsX9_keepAct 0 0 [.ref (ad 148)] B0 adK adV D cy ad f sz (fun (g : Nat → va_E) => True ∧ (∃ (m_acts' : Int32) (m_undone' : Int32), TYm ad cy fr0 c_text m_taped m_size m_faultKind m_faultPlace m_at m_end m_token m_number m_name c_points c_strands c_units c_told c_ruleFrom c_ruleTo c_code c_eWhat c_eSign m_bank m_rb m_codes m_within m_piled m_unitsInRule m_askStrand m_askTied m_thoughtClaim m_thoughtNeed m_thoughtAll c_roundOf m_acts' m_undone' m_laid m_firstMove m_seens m_time m_waysNow m_fitting g ∧ (1 ≤ m_acts'.toInt ∧ m_acts'.toInt ≤ 40) ∧ (0 ≤ m_undone'.toInt ∧ m_undone'.toInt ≤ 0) ∧ (m_acts'.toInt + m_undone'.toInt ≤ 40 ∧ 0 ≤ m_undone'.toInt))) := by
  refine TtV.of (cc := cX9_keepAct) (maxL := 2) (own := RX9) (by decide) rfl (Nat.le_of_ble_eq_true rfl) rfl ?_
  intro p e s m below meth c A ls hx hb hr hml hts hown hlk hK hE hP hD hS hA hAB hl
  have hl : lv_has ls 2 [(0, .ref (ad 148))] := hl
  refine st0 (fun H locs hP hS => ?_) hP hS
  have j51 : ∀ (N : Nat) (f : Nat → va_E) (H : Heap) (locs : List Loc) (ls : Array Slot) (v51_l1 : Int32) (v51_p_m_acts : Int32), (20 - v51_l1.toInt ≤ (N : Int)) → (0 ≤ v51_l1.toInt ∧ v51_l1.toInt ≤ 19) → (0 ≤ v51_p_m_acts.toInt ∧ v51_p_m_acts.toInt ≤ 39) → (TYm ad cy fr0 c_text m_taped m_size m_faultKind m_faultPlace m_at m_end m_token m_number m_name c_points c_strands c_units c_told c_ruleFrom c_ruleTo c_code c_eWhat c_eSign m_bank m_rb m_codes m_within m_piled m_unitsInRule m_askStrand m_askTied m_thoughtClaim m_thoughtNeed m_thoughtAll c_roundOf v51_p_m_acts m_undone m_laid m_firstMove m_seens m_time m_waysNow m_fitting f) → (va_P D vwCl (wl ad f) H) → (va_D A (wl ad f)) → (va_S A s.heap H locs) → (lv_has ls 2 [(1, .int v51_l1), (0, .ref (ad 148))]) → W p l e (rmO 0 0 0 0) s m ([.ref (ad 148)] : List Value).toArray below meth c H locs 0 0 (MQ below (va_Qv (fun (g : Nat → va_E) => True ∧ (∃ (m_acts' : Int32) (m_undone' : Int32), TYm ad cy fr0 c_text m_taped m_size m_faultKind m_faultPlace m_at m_end m_token m_number m_name c_points c_strands c_units c_told c_ruleFrom c_ruleTo c_code c_eWhat c_eSign m_bank m_rb m_codes m_within m_piled m_unitsInRule m_askStrand m_askTied m_thoughtClaim m_thoughtNeed m_thoughtAll c_roundOf m_acts' m_undone' m_laid m_firstMove m_seens m_time m_waysNow m_fitting g ∧ (1 ≤ m_acts'.toInt ∧ m_acts'.toInt ≤ 40) ∧ (0 ≤ m_undone'.toInt ∧ m_undone'.toInt ≤ 0) ∧ (m_acts'.toInt + m_undone'.toInt ≤ 40 ∧ 0 ≤ m_undone'.toInt))) (fun g t => PstT D ad g t) A) ([.ref (ad 148)] : List Value).toArray s 0 0 A) (F0 m 51 ls []) := by
    intro N
    induction N with
    | zero => intro f H locs ls v51_l1 v51_p_m_acts hN hv51_l1 hv51_p_m_acts hT hP hD hS hl; exact absurd hN (by omega)
    | succ N ih51 =>
      intro f H locs ls v51_l1 v51_p_m_acts hN hv51_l1 hv51_p_m_acts hT hP hD hS hl
      refine lv_iload_n hx hb dX9_keepAct_51 rfl (lv_at hl 0 rfl) ?_
      refine lv_bipush (v := 16) hx hb dX9_keepAct_52 (by decide) ?_
      have ttl_16 := tl_16
      refine lv_icmp_ge (tgt := 83) hx hb dX9_keepAct_54 (by decide) (fun c1 => ?_) (fun c1 => ?_)
      · have kc1 := c_le c1
        refine lv_aload_n hx hb dX9_keepAct_83 rfl (lv_at hl 1 rfl) ?_
        refine lv_dup hx hb dX9_keepAct_84 rfl ?_
        obtain ⟨e17, h2, h3, h4, h5, h6, h7, h8, h9, h10, h11, h12, h13, h14, h15, h16⟩ := (show okX9 ad m_taped m_size m_faultKind m_faultPlace m_at m_end m_token m_number m_name m_bank m_rb m_codes m_within m_piled m_unitsInRule m_askStrand m_askTied m_thoughtClaim m_thoughtNeed m_thoughtAll v51_p_m_acts m_undone m_laid m_firstMove m_seens m_time m_waysNow m_fitting 148 (f 148) from hT.1 148 (by decide))
        refine va_get (D := D) (cl := vwCl) (ci := 9) (v := .int v51_p_m_acts) (C := RX9) (T := TX9) (N := 64) hx hb hts in_X9_keepAct_X9 hown hK hP 148 (wl_at (by decide) e17) rfl 45 (by decide) (hts (.fieldLink RX9 368 "EightReasonsModel" "acts" "I") (List.mem_of_getElem? (i := 1) rfl)) (fun _ h9 => h9) rfl dX9_keepAct_85 ?_
        refine lv_iconst (v := 1) hx hb dX9_keepAct_88 (by decide) ?_
        have ttl_1 := tl_1
        refine lv_iadd hx hb dX9_keepAct_89 ?_
        refine lv_topi (fun x18 ex18 => ?_)
        have hx18 := r_add ex18 (by omega) (by omega)
        refine va_put (D := D) (cl := vwCl) (ci := 9) (v := .int x18) (ty := tyX9 45) (C := RX9) (T := TX9) (N := 64) hx hb hts in_X9_keepAct_X9 tyX9 tyX9_ok nmX9 hown hK hP hD hS 148 (wl_at (by decide) e17) rfl 45 (by decide) (hts (.fieldLink RX9 368 "EightReasonsModel" "acts" "I") (List.mem_of_getElem? (i := 1) rfl)) (fun _ h9 => h9) rfl (tyX9_ok 45 (by decide)) rfl rfl (Nat.le_of_ble_eq_true rfl) dX9_keepAct_90 (fun H locs hP hD hS => ?_)
        obtain ⟨f, hT, hP, hD, e19, hj20⟩ := stU (by decide) (TYm.p148 hT (show OKm ad cy c_text m_taped m_size m_faultKind m_faultPlace m_at m_end m_token m_number m_name c_points c_strands c_units c_told c_ruleFrom c_ruleTo c_code c_eWhat c_eSign m_bank m_rb m_codes m_within m_piled m_unitsInRule m_askStrand m_askTied m_thoughtClaim m_thoughtNeed m_thoughtAll c_roundOf x18 m_undone m_laid m_firstMove m_seens m_time m_waysNow m_fitting 148 _ from (show okX9 ad m_taped m_size m_faultKind m_faultPlace m_at m_end m_token m_number m_name m_bank m_rb m_codes m_within m_piled m_unitsInRule m_askStrand m_askTied m_thoughtClaim m_thoughtNeed m_thoughtAll x18 m_undone m_laid m_firstMove m_seens m_time m_waysNow m_fitting 148 _ from ⟨rfl, by omega, by omega, by omega, by omega, by omega, by omega, by omega, by omega, by omega, by omega, by omega, by omega, by omega, by omega, by omega⟩))) hP hD
        refine lv_aload_n hx hb dX9_keepAct_93 rfl (lv_at hl 1 rfl) ?_
        refine lv_iconst (v := 0) hx hb dX9_keepAct_94 (by decide) ?_
        refine va_put (D := D) (cl := vwCl) (ci := 9) (v := .int 0) (ty := tyX9 46) (C := RX9) (T := TX9) (N := 64) hx hb hts in_X9_keepAct_X9 tyX9 tyX9_ok nmX9 hown hK hP hD hS 148 (wl_at (by decide) e19) rfl 46 (by decide) (hts (.fieldLink RX9 371 "EightReasonsModel" "undone" "I") (List.mem_of_getElem? (i := 4) rfl)) (fun _ h9 => h9) rfl (tyX9_ok 46 (by decide)) rfl rfl (Nat.le_of_ble_eq_true rfl) dX9_keepAct_95 (fun H locs hP hD hS => ?_)
        obtain ⟨f, hT, hP, hD, e21, hj22⟩ := stU (by decide) (TYm.p148 hT (show OKm ad cy c_text m_taped m_size m_faultKind m_faultPlace m_at m_end m_token m_number m_name c_points c_strands c_units c_told c_ruleFrom c_ruleTo c_code c_eWhat c_eSign m_bank m_rb m_codes m_within m_piled m_unitsInRule m_askStrand m_askTied m_thoughtClaim m_thoughtNeed m_thoughtAll c_roundOf x18 0 m_laid m_firstMove m_seens m_time m_waysNow m_fitting 148 _ from (show okX9 ad m_taped m_size m_faultKind m_faultPlace m_at m_end m_token m_number m_name m_bank m_rb m_codes m_within m_piled m_unitsInRule m_askStrand m_askTied m_thoughtClaim m_thoughtNeed m_thoughtAll x18 0 m_laid m_firstMove m_seens m_time m_waysNow m_fitting 148 _ from ⟨rfl, by omega, by omega, by omega, by omega, by omega, by omega, by omega, by omega, by omega, by omega, by omega, by omega, by omega, by omega, by omega⟩))) hP hD
        have ttl_0 := tl_0
        exact tV hx hb hr hlk hP hS ⟨trivial, ⟨x18, (0 : Int32), hT, by omega, by omega, by omega⟩⟩ dX9_keepAct_98
      · have kc1 := c_nle c1
        refine lv_aload_n hx hb dX9_keepAct_57 rfl (lv_at hl 1 rfl) ?_
        obtain ⟨e38, h23, h24, h25, h26, h27, h28, h29, h30, h31, h32, h33, h34, h35, h36, h37⟩ := (show okX9 ad m_taped m_size m_faultKind m_faultPlace m_at m_end m_token m_number m_name m_bank m_rb m_codes m_within m_piled m_unitsInRule m_askStrand m_askTied m_thoughtClaim m_thoughtNeed m_thoughtAll v51_p_m_acts m_undone m_laid m_firstMove m_seens m_time m_waysNow m_fitting 148 (f 148) from hT.1 148 (by decide))
        refine va_get (D := D) (cl := vwCl) (ci := 9) (v := .ref (ad 173)) (C := RX9) (T := TX9) (N := 64) hx hb hts in_X9_keepAct_X9 hown hK hP 148 (wl_at (by decide) e38) rfl 44 (by decide) (hts (.fieldLink RX9 94 "EightReasonsModel" "was" "[I") (List.mem_of_getElem? (i := 2) rfl)) (fun _ h9 => h9) rfl dX9_keepAct_58 ?_
        refine lv_bipush (v := 16) hx hb dX9_keepAct_61 (by decide) ?_
        refine lv_aload_n hx hb dX9_keepAct_63 rfl (lv_at hl 1 rfl) ?_
        refine va_get (D := D) (cl := vwCl) (ci := 9) (v := .int v51_p_m_acts) (C := RX9) (T := TX9) (N := 64) hx hb hts in_X9_keepAct_X9 hown hK hP 148 (wl_at (by decide) e38) rfl 45 (by decide) (hts (.fieldLink RX9 368 "EightReasonsModel" "acts" "I") (List.mem_of_getElem? (i := 1) rfl)) (fun _ h9 => h9) rfl dX9_keepAct_64 ?_
        refine lv_imul hx hb dX9_keepAct_67 ?_
        refine lv_topi (fun x39 ex39 => ?_)
        have hx39 := r_mull ex39 tl_16 (by omega) (by omega)
        refine lv_iload_n hx hb dX9_keepAct_68 rfl (lv_at hl 0 rfl) ?_
        refine lv_iadd hx hb dX9_keepAct_69 ?_
        refine lv_topi (fun x40 ex40 => ?_)
        have hx40 := r_add ex40 (by omega) (by omega)
        refine lv_aload_n hx hb dX9_keepAct_70 rfl (lv_at hl 1 rfl) ?_
        refine va_get (D := D) (cl := vwCl) (ci := 9) (v := .ref (ad 169)) (C := RX9) (T := TX9) (N := 64) hx hb hts in_X9_keepAct_X9 hown hK hP 148 (wl_at (by decide) e38) rfl 37 (by decide) (hts (.fieldLink RX9 76 "EightReasonsModel" "all" "[I") (List.mem_of_getElem? (i := 3) rfl)) (fun _ h9 => h9) rfl dX9_keepAct_71 ?_
        refine lv_iload_n hx hb dX9_keepAct_74 rfl (lv_at hl 0 rfl) ?_
        obtain ⟨g43, e41, h42⟩ := (show okIr cy 16 (0) (4095) 16 1 (f 169) from hT.1 169 (by decide))
        have hc44 := clampZ (x := v51_l1) (by omega)
        refine va_iald hx hb hK hP 169 0 (wl_at (by decide) e41) rfl (vp_in_iff.mpr ⟨by omega, by omega⟩) dX9_keepAct_75 ?_
        refine lv_topi (fun x45 ex45 => ?_)
        have hx45 := r_elc (h42 _) ex45
        obtain ⟨g48, e46, h47⟩ := (show okIr cy 656 (0) (4095) 16 1 (f 173) from hT.1 173 (by decide))
        refine va_iast hx hb hK hP hD hS 173 0 (wl_at (by decide) e46) rfl (vp_in_iff.mpr ⟨by omega, by omega⟩) dX9_keepAct_76 (fun H locs hP hD hS => ?_)
        have hc49 := clampZ (x := x40) (by omega)
        obtain ⟨f, hT, hP, hD, e50, hj51⟩ := stU (by decide) (TYm.up hT (by decide) (show OKm ad cy c_text m_taped m_size m_faultKind m_faultPlace m_at m_end m_token m_number m_name c_points c_strands c_units c_told c_ruleFrom c_ruleTo c_code c_eWhat c_eSign m_bank m_rb m_codes m_within m_piled m_unitsInRule m_askStrand m_askTied m_thoughtClaim m_thoughtNeed m_thoughtAll c_roundOf v51_p_m_acts m_undone m_laid m_firstMove m_seens m_time m_waysNow m_fitting 173 _ from (show okIr cy 656 (0) (4095) 16 1 _ from ⟨_, rfl, upd_r h47 (fun q => by omega)⟩))) hP hD
        have e52 := (hj51 148 (by decide)).trans e38
        have e53 := (hj51 169 (by decide)).trans e41
        obtain ⟨x54, ex54⟩ : ∃ q : Int32, q = v51_l1 + Int32.ofInt (1) := ⟨_, rfl⟩
        refine lv_iinc (v := x54) (lv' := [(1, .int x54), (0, .ref (ad 148))]) hx hb dX9_keepAct_77 hl (k := 0) rfl ex54.symm (by decide) rfl (fun ls hl => ?_)
        have hx54 := r_inc ex54 (by decide) (by omega) (by omega)
        refine lv_goto (tgt := 51) hx hb dX9_keepAct_80 (by decide) ?_
        exact ih51 f H locs ls x54 v51_p_m_acts (by omega) (by omega) (by omega) hT hP hD hS (lv_sub hl [0, 1] rfl)
  have j49 : ∀ (f : Nat → va_E) (H : Heap) (locs : List Loc) (ls : Array Slot) (v49_p_m_acts : Int32), (0 ≤ v49_p_m_acts.toInt ∧ v49_p_m_acts.toInt ≤ 39) → (TYm ad cy fr0 c_text m_taped m_size m_faultKind m_faultPlace m_at m_end m_token m_number m_name c_points c_strands c_units c_told c_ruleFrom c_ruleTo c_code c_eWhat c_eSign m_bank m_rb m_codes m_within m_piled m_unitsInRule m_askStrand m_askTied m_thoughtClaim m_thoughtNeed m_thoughtAll c_roundOf v49_p_m_acts m_undone m_laid m_firstMove m_seens m_time m_waysNow m_fitting f) → (va_P D vwCl (wl ad f) H) → (va_D A (wl ad f)) → (va_S A s.heap H locs) → (lv_has ls 2 [(0, .ref (ad 148))]) → W p l e (rmO 0 0 0 0) s m ([.ref (ad 148)] : List Value).toArray below meth c H locs 0 0 (MQ below (va_Qv (fun (g : Nat → va_E) => True ∧ (∃ (m_acts' : Int32) (m_undone' : Int32), TYm ad cy fr0 c_text m_taped m_size m_faultKind m_faultPlace m_at m_end m_token m_number m_name c_points c_strands c_units c_told c_ruleFrom c_ruleTo c_code c_eWhat c_eSign m_bank m_rb m_codes m_within m_piled m_unitsInRule m_askStrand m_askTied m_thoughtClaim m_thoughtNeed m_thoughtAll c_roundOf m_acts' m_undone' m_laid m_firstMove m_seens m_time m_waysNow m_fitting g ∧ (1 ≤ m_acts'.toInt ∧ m_acts'.toInt ≤ 40) ∧ (0 ≤ m_undone'.toInt ∧ m_undone'.toInt ≤ 0) ∧ (m_acts'.toInt + m_undone'.toInt ≤ 40 ∧ 0 ≤ m_undone'.toInt))) (fun g t => PstT D ad g t) A) ([.ref (ad 148)] : List Value).toArray s 0 0 A) (F0 m 49 ls []) := by
    intro f H locs ls v49_p_m_acts hv49_p_m_acts hT hP hD hS hl
    refine lv_iconst (v := 0) hx hb dX9_keepAct_49 (by decide) ?_
    refine lv_istore_n (lv' := [(1, .int 0), (0, .ref (ad 148))]) hx hb dX9_keepAct_50 rfl hl (by decide) rfl (fun ls hl => ?_)
    have ttl_0 := tl_0
    exact j51 (Int.toNat (20 - (0 : Int32).toInt)) f H locs ls (0 : Int32) v49_p_m_acts (by omega) (by omega) (by omega) hT hP hD hS (lv_sub hl [0, 1] rfl)
  have j11 : ∀ (N : Nat) (f : Nat → va_E) (H : Heap) (locs : List Loc) (ls : Array Slot) (v11_l1 : Int32), (1000 - v11_l1.toInt ≤ (N : Int)) → (0 ≤ v11_l1.toInt ∧ v11_l1.toInt ≤ 999) → (40 ≤ m_acts.toInt ∧ m_acts.toInt ≤ 40) → (TYm ad cy fr0 c_text m_taped m_size m_faultKind m_faultPlace m_at m_end m_token m_number m_name c_points c_strands c_units c_told c_ruleFrom c_ruleTo c_code c_eWhat c_eSign m_bank m_rb m_codes m_within m_piled m_unitsInRule m_askStrand m_askTied m_thoughtClaim m_thoughtNeed m_thoughtAll c_roundOf m_acts m_undone m_laid m_firstMove m_seens m_time m_waysNow m_fitting f) → (va_P D vwCl (wl ad f) H) → (va_D A (wl ad f)) → (va_S A s.heap H locs) → (lv_has ls 2 [(1, .int v11_l1), (0, .ref (ad 148))]) → W p l e (rmO 0 0 0 0) s m ([.ref (ad 148)] : List Value).toArray below meth c H locs 0 0 (MQ below (va_Qv (fun (g : Nat → va_E) => True ∧ (∃ (m_acts' : Int32) (m_undone' : Int32), TYm ad cy fr0 c_text m_taped m_size m_faultKind m_faultPlace m_at m_end m_token m_number m_name c_points c_strands c_units c_told c_ruleFrom c_ruleTo c_code c_eWhat c_eSign m_bank m_rb m_codes m_within m_piled m_unitsInRule m_askStrand m_askTied m_thoughtClaim m_thoughtNeed m_thoughtAll c_roundOf m_acts' m_undone' m_laid m_firstMove m_seens m_time m_waysNow m_fitting g ∧ (1 ≤ m_acts'.toInt ∧ m_acts'.toInt ≤ 40) ∧ (0 ≤ m_undone'.toInt ∧ m_undone'.toInt ≤ 0) ∧ (m_acts'.toInt + m_undone'.toInt ≤ 40 ∧ 0 ≤ m_undone'.toInt))) (fun g t => PstT D ad g t) A) ([.ref (ad 148)] : List Value).toArray s 0 0 A) (F0 m 11 ls []) := by
    intro N
    induction N with
    | zero => intro f H locs ls v11_l1 hN hv11_l1 hv11_p_m_acts hT hP hD hS hl; exact absurd hN (by omega)
    | succ N ih11 =>
      intro f H locs ls v11_l1 hN hv11_l1 hv11_p_m_acts hT hP hD hS hl
      refine lv_iload_n hx hb dX9_keepAct_11 rfl (lv_at hl 0 rfl) ?_
      refine lv_sipush (v := 640) hx hb dX9_keepAct_12 (by decide) ?_
      have ttl_640 := tl_640
      refine lv_icmp_ge (tgt := 39) hx hb dX9_keepAct_15 (by decide) (fun c55 => ?_) (fun c55 => ?_)
      · have kc55 := c_le c55
        refine lv_aload_n hx hb dX9_keepAct_39 rfl (lv_at hl 1 rfl) ?_
        refine lv_dup hx hb dX9_keepAct_40 rfl ?_
        obtain ⟨e71, h56, h57, h58, h59, h60, h61, h62, h63, h64, h65, h66, h67, h68, h69, h70⟩ := (show okX9 ad m_taped m_size m_faultKind m_faultPlace m_at m_end m_token m_number m_name m_bank m_rb m_codes m_within m_piled m_unitsInRule m_askStrand m_askTied m_thoughtClaim m_thoughtNeed m_thoughtAll m_acts m_undone m_laid m_firstMove m_seens m_time m_waysNow m_fitting 148 (f 148) from hT.1 148 (by decide))
        refine va_get (D := D) (cl := vwCl) (ci := 9) (v := .int m_acts) (C := RX9) (T := TX9) (N := 64) hx hb hts in_X9_keepAct_X9 hown hK hP 148 (wl_at (by decide) e71) rfl 45 (by decide) (hts (.fieldLink RX9 368 "EightReasonsModel" "acts" "I") (List.mem_of_getElem? (i := 1) rfl)) (fun _ h9 => h9) rfl dX9_keepAct_41 ?_
        refine lv_iconst (v := 1) hx hb dX9_keepAct_44 (by decide) ?_
        have ttl_1 := tl_1
        refine lv_isub hx hb dX9_keepAct_45 ?_
        refine lv_topi (fun x72 ex72 => ?_)
        have hx72 := r_sub ex72 (by omega) (by omega)
        refine va_put (D := D) (cl := vwCl) (ci := 9) (v := .int x72) (ty := tyX9 45) (C := RX9) (T := TX9) (N := 64) hx hb hts in_X9_keepAct_X9 tyX9 tyX9_ok nmX9 hown hK hP hD hS 148 (wl_at (by decide) e71) rfl 45 (by decide) (hts (.fieldLink RX9 368 "EightReasonsModel" "acts" "I") (List.mem_of_getElem? (i := 1) rfl)) (fun _ h9 => h9) rfl (tyX9_ok 45 (by decide)) rfl rfl (Nat.le_of_ble_eq_true rfl) dX9_keepAct_46 (fun H locs hP hD hS => ?_)
        obtain ⟨f, hT, hP, hD, e73, hj74⟩ := stU (by decide) (TYm.p148 hT (show OKm ad cy c_text m_taped m_size m_faultKind m_faultPlace m_at m_end m_token m_number m_name c_points c_strands c_units c_told c_ruleFrom c_ruleTo c_code c_eWhat c_eSign m_bank m_rb m_codes m_within m_piled m_unitsInRule m_askStrand m_askTied m_thoughtClaim m_thoughtNeed m_thoughtAll c_roundOf x72 m_undone m_laid m_firstMove m_seens m_time m_waysNow m_fitting 148 _ from (show okX9 ad m_taped m_size m_faultKind m_faultPlace m_at m_end m_token m_number m_name m_bank m_rb m_codes m_within m_piled m_unitsInRule m_askStrand m_askTied m_thoughtClaim m_thoughtNeed m_thoughtAll x72 m_undone m_laid m_firstMove m_seens m_time m_waysNow m_fitting 148 _ from ⟨rfl, by omega, by omega, by omega, by omega, by omega, by omega, by omega, by omega, by omega, by omega, by omega, by omega, by omega, by omega, by omega⟩))) hP hD
        exact j49 f H locs ls x72 (by omega) hT hP hD hS (lv_sub hl [1] rfl)
      · have kc55 := c_nle c55
        refine lv_aload_n hx hb dX9_keepAct_18 rfl (lv_at hl 1 rfl) ?_
        obtain ⟨e90, h75, h76, h77, h78, h79, h80, h81, h82, h83, h84, h85, h86, h87, h88, h89⟩ := (show okX9 ad m_taped m_size m_faultKind m_faultPlace m_at m_end m_token m_number m_name m_bank m_rb m_codes m_within m_piled m_unitsInRule m_askStrand m_askTied m_thoughtClaim m_thoughtNeed m_thoughtAll m_acts m_undone m_laid m_firstMove m_seens m_time m_waysNow m_fitting 148 (f 148) from hT.1 148 (by decide))
        refine va_get (D := D) (cl := vwCl) (ci := 9) (v := .ref (ad 173)) (C := RX9) (T := TX9) (N := 64) hx hb hts in_X9_keepAct_X9 hown hK hP 148 (wl_at (by decide) e90) rfl 44 (by decide) (hts (.fieldLink RX9 94 "EightReasonsModel" "was" "[I") (List.mem_of_getElem? (i := 2) rfl)) (fun _ h9 => h9) rfl dX9_keepAct_19 ?_
        refine lv_iload_n hx hb dX9_keepAct_22 rfl (lv_at hl 0 rfl) ?_
        refine lv_aload_n hx hb dX9_keepAct_23 rfl (lv_at hl 1 rfl) ?_
        refine va_get (D := D) (cl := vwCl) (ci := 9) (v := .ref (ad 173)) (C := RX9) (T := TX9) (N := 64) hx hb hts in_X9_keepAct_X9 hown hK hP 148 (wl_at (by decide) e90) rfl 44 (by decide) (hts (.fieldLink RX9 94 "EightReasonsModel" "was" "[I") (List.mem_of_getElem? (i := 2) rfl)) (fun _ h9 => h9) rfl dX9_keepAct_24 ?_
        refine lv_iload_n hx hb dX9_keepAct_27 rfl (lv_at hl 0 rfl) ?_
        refine lv_bipush (v := 16) hx hb dX9_keepAct_28 (by decide) ?_
        have ttl_16 := tl_16
        refine lv_iadd hx hb dX9_keepAct_30 ?_
        refine lv_topi (fun x91 ex91 => ?_)
        have hx91 := r_add ex91 (by omega) (by omega)
        obtain ⟨g94, e92, h93⟩ := (show okIr cy 656 (0) (4095) 16 1 (f 173) from hT.1 173 (by decide))
        have hc95 := clampZ (x := x91) (by omega)
        refine va_iald hx hb hK hP 173 0 (wl_at (by decide) e92) rfl (vp_in_iff.mpr ⟨by omega, by omega⟩) dX9_keepAct_31 ?_
        refine lv_topi (fun x96 ex96 => ?_)
        have hx96 := r_elc (h93 _) ex96
        refine va_iast hx hb hK hP hD hS 173 0 (wl_at (by decide) e92) rfl (vp_in_iff.mpr ⟨by omega, by omega⟩) dX9_keepAct_32 (fun H locs hP hD hS => ?_)
        have hc97 := clampZ (x := v11_l1) (by omega)
        obtain ⟨f, hT, hP, hD, e98, hj99⟩ := stU (by decide) (TYm.up hT (by decide) (show OKm ad cy c_text m_taped m_size m_faultKind m_faultPlace m_at m_end m_token m_number m_name c_points c_strands c_units c_told c_ruleFrom c_ruleTo c_code c_eWhat c_eSign m_bank m_rb m_codes m_within m_piled m_unitsInRule m_askStrand m_askTied m_thoughtClaim m_thoughtNeed m_thoughtAll c_roundOf m_acts m_undone m_laid m_firstMove m_seens m_time m_waysNow m_fitting 173 _ from (show okIr cy 656 (0) (4095) 16 1 _ from ⟨_, rfl, upd_r h93 (fun q => by omega)⟩))) hP hD
        have e100 := (hj99 148 (by decide)).trans e90
        obtain ⟨x101, ex101⟩ : ∃ q : Int32, q = v11_l1 + Int32.ofInt (1) := ⟨_, rfl⟩
        refine lv_iinc (v := x101) (lv' := [(1, .int x101), (0, .ref (ad 148))]) hx hb dX9_keepAct_33 hl (k := 0) rfl ex101.symm (by decide) rfl (fun ls hl => ?_)
        have hx101 := r_inc ex101 (by decide) (by omega) (by omega)
        refine lv_goto (tgt := 11) hx hb dX9_keepAct_36 (by decide) ?_
        exact ih11 f H locs ls x101 (by omega) (by omega) (by omega) hT hP hD hS (lv_sub hl [0, 1] rfl)
  refine lv_aload_n hx hb dX9_keepAct_0 rfl (lv_at hl 0 rfl) ?_
  obtain ⟨e117, h102, h103, h104, h105, h106, h107, h108, h109, h110, h111, h112, h113, h114, h115, h116⟩ := (show okX9 ad m_taped m_size m_faultKind m_faultPlace m_at m_end m_token m_number m_name m_bank m_rb m_codes m_within m_piled m_unitsInRule m_askStrand m_askTied m_thoughtClaim m_thoughtNeed m_thoughtAll m_acts m_undone m_laid m_firstMove m_seens m_time m_waysNow m_fitting 148 (f 148) from hT.1 148 (by decide))
  refine va_get (D := D) (cl := vwCl) (ci := 9) (v := .int m_acts) (C := RX9) (T := TX9) (N := 64) hx hb hts in_X9_keepAct_X9 hown hK hP 148 (wl_at (by decide) e117) rfl 45 (by decide) (hts (.fieldLink RX9 368 "EightReasonsModel" "acts" "I") (List.mem_of_getElem? (i := 1) rfl)) (fun _ h9 => h9) rfl dX9_keepAct_1 ?_
  refine lv_bipush (v := 40) hx hb dX9_keepAct_4 (by decide) ?_
  have ttl_40 := tl_40
  refine lv_icmp_ne (tgt := 49) hx hb dX9_keepAct_6 (by decide) (fun c118 => ?_) (fun c118 => ?_)
  · have kc118 := c_ne c118
    exact j49 f H locs ls m_acts (by omega) hT hP hD hS (lv_sub hl [0] rfl)
  · have kc118 := c_eq c118
    refine lv_iconst (v := 0) hx hb dX9_keepAct_9 (by decide) ?_
    refine lv_istore_n (lv' := [(1, .int 0), (0, .ref (ad 148))]) hx hb dX9_keepAct_10 rfl hl (by decide) rfl (fun ls hl => ?_)
    have ttl_0 := tl_0
    exact j11 (Int.toNat (1000 - (0 : Int32).toInt)) f H locs ls (0 : Int32) (by omega) (by omega) (by omega) hT hP hD hS (lv_sub hl [0, 1] rfl)
set_option maxHeartbeats 4000000 in
set_option maxRecDepth 100000 in
theorem s_X9_turned_0 (l : Launch) (B0 : Nat) (adK adV : Nat → Nat) (D : va_G) (cy : Nat → ClassId) (ad : Nat → Nat) (fr0 : Nat → va_E) (c_text : Nat → Int32) (m_taped : Int32) (m_size : Int32) (m_faultKind : Int32) (m_faultPlace : Int32) (m_at : Int32) (m_end : Int32) (m_token : Int32) (m_number : Int32) (m_name : Int64) (c_points : Nat → Int32) (c_strands : Nat → Int32) (c_units : Nat → Int32) (c_told : Nat → Int32) (c_ruleFrom : Nat → Int32) (c_ruleTo : Nat → Int32) (c_code : Nat → Int32) (c_eWhat : Nat → Int32) (c_eSign : Nat → Int32) (m_bank : Int32) (m_rb : Int32) (m_codes : Int32) (m_within : Int32) (m_piled : Int32) (m_unitsInRule : Int32) (m_askStrand : Int32) (m_askTied : Int32) (m_thoughtClaim : Int32) (m_thoughtNeed : Int32) (m_thoughtAll : Int32) (c_roundOf : Nat → Int32) (m_acts : Int32) (m_undone : Int32) (m_laid : Int32) (m_firstMove : Int32) (m_seens : Int32) (m_time : Int32) (m_waysNow : Int32) (m_fitting : Int32) (f : Nat → va_E) (hT : TYm ad cy fr0 c_text m_taped m_size m_faultKind m_faultPlace m_at m_end m_token m_number m_name c_points c_strands c_units c_told c_ruleFrom c_ruleTo c_code c_eWhat c_eSign m_bank m_rb m_codes m_within m_piled m_unitsInRule m_askStrand m_askTied m_thoughtClaim m_thoughtNeed m_thoughtAll c_roundOf m_acts m_undone m_laid m_firstMove m_seens m_time m_waysNow m_fitting f) (p2 : Int32) (p3 : Int32) (hp3 : 0 ≤ p3.toInt ∧ p3.toInt ≤ 1) (hh0 : m_acts.toInt + m_undone.toInt ≤ 40 ∧ 0 ≤ m_undone.toInt) (hh1 : p3.toInt = 0 ∨ (0 ≤ p2.toInt ∧ p2.toInt ≤ 11)) (hCV : CVp c_told c_ruleFrom c_ruleTo c_code m_bank) (sz : Nat) : TtI l yX9_turned wsX9_turned 8 178 [.ref (ad 148), .int 1, .int p2, .int p3] B0 adK adV D cy ad f sz (fun (r : Int32) (g : Nat → va_E) => (-1 ≤ r.toInt ∧ r.toInt ≤ 32) ∧ (∃ (m_askStrand' : Int32) (m_askTied' : Int32) (c_roundOf' : Nat → Int32) (m_acts' : Int32) (m_undone' : Int32), TYm ad cy fr0 c_text m_taped m_size m_faultKind m_faultPlace m_at m_end m_token m_number m_name c_points c_strands c_units c_told c_ruleFrom c_ruleTo c_code c_eWhat c_eSign m_bank m_rb m_codes m_within m_piled m_unitsInRule m_askStrand' m_askTied' m_thoughtClaim m_thoughtNeed m_thoughtAll c_roundOf' m_acts' m_undone' m_laid m_firstMove m_seens m_time m_waysNow m_fitting g ∧ (m_acts'.toInt + m_undone'.toInt ≤ 40 ∧ 0 ≤ m_undone'.toInt))) := by
  refine TtI.of (cc := cX9_turned) (maxL := 4) (ty := .int) (own := RX9) (by decide) rfl (Nat.le_of_ble_eq_true rfl) rfl ?_
  intro p e s m below meth c A ls hx hb hr hml hts hown hlk hK hE hP hD hS hA hAB hl
  have hl : lv_has ls 4 [(0, .ref (ad 148)), (1, .int 1), (2, .int p2), (3, .int p3)] := hl
  refine st0 (fun H locs hP hS => ?_) hP hS
  refine lv_iload_n hx hb dX9_turned_0 rfl (lv_at hl 3 rfl) ?_
  have ttl_0 := tl_0
  refine lv_if_ne (tgt := 6) hx hb dX9_turned_1 (by decide) (fun c1 => ?_) (fun c1 => ?_)
  · have kc1 := c_ne c1
    refine lv_aload_n hx hb dX9_turned_6 rfl (lv_at hl 0 rfl) ?_
    obtain ⟨e17, h2, h3, h4, h5, h6, h7, h8, h9, h10, h11, h12, h13, h14, h15, h16⟩ := (show okX9 ad m_taped m_size m_faultKind m_faultPlace m_at m_end m_token m_number m_name m_bank m_rb m_codes m_within m_piled m_unitsInRule m_askStrand m_askTied m_thoughtClaim m_thoughtNeed m_thoughtAll m_acts m_undone m_laid m_firstMove m_seens m_time m_waysNow m_fitting 148 (f 148) from hT.1 148 (by decide))
    refine tVV (As := []) (rest := []) (i := 148) ⟨hx, hb, hml, hown, hts⟩ hK hE hP hD hS hA hAB (s_X9_keepAct_0 l B0 adK adV D cy ad fr0 c_text m_taped m_size m_faultKind m_faultPlace m_at m_end m_token m_number m_name c_points c_strands c_units c_told c_ruleFrom c_ruleTo c_code c_eWhat c_eSign m_bank m_rb m_codes m_within m_piled m_unitsInRule m_askStrand m_askTied m_thoughtClaim m_thoughtNeed m_thoughtAll c_roundOf m_acts m_undone m_laid m_firstMove m_seens m_time m_waysNow m_fitting f hT _) (cwV 0 hts gX9_turned_X9_keepAct rfl rfl rfl (by decide +kernel) ⟨Nat.le_of_ble_eq_true rfl, Nat.le_of_ble_eq_true rfl⟩) (by decide) 9 e17 rfl rfl hl.1 rfl (Nat.le_of_ble_eq_true rfl) dX9_turned_7 ⟨Nat.le_of_ble_eq_true rfl, Nat.le_of_ble_eq_true rfl⟩ (fun f H locs hw hP hD hS => ?_)
    obtain ⟨hrs, x18, x19, hT, h20, h21, h22⟩ := hw
    have ha23 : 0 ≤ p2.toInt ∧ p2.toInt ≤ 11 := by omega
    refine lv_aload_n hx hb dX9_turned_10 rfl (lv_at hl 0 rfl) ?_
    obtain ⟨e39, h24, h25, h26, h27, h28, h29, h30, h31, h32, h33, h34, h35, h36, h37, h38⟩ := (show okX9 ad m_taped m_size m_faultKind m_faultPlace m_at m_end m_token m_number m_name m_bank m_rb m_codes m_within m_piled m_unitsInRule m_askStrand m_askTied m_thoughtClaim m_thoughtNeed m_thoughtAll x18 x19 m_laid m_firstMove m_seens m_time m_waysNow m_fitting 148 (f 148) from hT.1 148 (by decide))
    refine va_get (D := D) (cl := vwCl) (ci := 9) (v := .ref (ad 169)) (C := RX9) (T := TX9) (N := 64) hx hb hts in_X9_turned_X9 hown hK hP 148 (wl_at (by decide) e39) rfl 37 (by decide) (hts (.fieldLink RX9 76 "EightReasonsModel" "all" "[I") (List.mem_of_getElem? (i := 1) rfl)) (fun _ h9 => h9) rfl dX9_turned_11 ?_
    refine lv_iload_n hx hb dX9_turned_14 rfl (lv_at hl 1 rfl) ?_
    refine lv_dup2_11 hx hb dX9_turned_15 rfl rfl ?_
    obtain ⟨g42, e40, h41⟩ := (show okIr cy 16 (0) (4095) 16 1 (f 169) from hT.1 169 (by decide))
    have ttl_1 := tl_1
    refine va_iald hx hb hK hP 169 0 (wl_at (by decide) e40) rfl (vin (by decide)) dX9_turned_16 ?_
    refine lv_topi (fun x43 ex43 => ?_)
    have hx43 := r_el (h41 _ (by decide)) ex43
    refine lv_iconst (v := 1) hx hb dX9_turned_17 (by decide) ?_
    refine lv_iload_n hx hb dX9_turned_18 rfl (lv_at hl 2 rfl) ?_
    refine lv_ishl hx hb dX9_turned_19 ?_
    refine lv_topi (fun x44 ex44 => ?_)
    have hx44 := r_shl (K := 11) (M := 2048) ex44 (by decide) (by decide) (by omega) (by omega)
    refine lv_ixor hx hb dX9_turned_20 ?_
    refine lv_topi (fun x45 ex45 => ?_)
    have hx45 := r_xor (k := 12) (K := 4096) ex45 (by decide) (by decide) (by omega) (by omega) (by omega) (by omega)
    refine va_iast hx hb hK hP hD hS 169 0 (wl_at (by decide) e40) rfl (vin (by decide)) dX9_turned_21 (fun H locs hP hD hS => ?_)
    obtain ⟨f, hT, hP, hD, e46, hj47⟩ := stU (by decide) (TYm.up hT (by decide) (show OKm ad cy c_text m_taped m_size m_faultKind m_faultPlace m_at m_end m_token m_number m_name c_points c_strands c_units c_told c_ruleFrom c_ruleTo c_code c_eWhat c_eSign m_bank m_rb m_codes m_within m_piled m_unitsInRule m_askStrand m_askTied m_thoughtClaim m_thoughtNeed m_thoughtAll c_roundOf x18 x19 m_laid m_firstMove m_seens m_time m_waysNow m_fitting 169 _ from (show okIr cy 16 (0) (4095) 16 1 _ from ⟨_, rfl, upd_r h41 (fun _ => by omega)⟩))) hP hD
    have e48 := (hj47 148 (by decide)).trans e39
    refine lv_aload_n hx hb dX9_turned_22 rfl (lv_at hl 0 rfl) ?_
    refine tVI (As := []) (rest := []) (i := 148) ⟨hx, hb, hml, hown, hts⟩ hK hE hP hD hS hA hAB (s_X9_claimsNow_0 l B0 adK adV D cy ad fr0 c_text m_taped m_size m_faultKind m_faultPlace m_at m_end m_token m_number m_name c_points c_strands c_units c_told c_ruleFrom c_ruleTo c_code c_eWhat c_eSign m_bank m_rb m_codes m_within m_piled m_unitsInRule m_askStrand m_askTied m_thoughtClaim m_thoughtNeed m_thoughtAll c_roundOf x18 x19 m_laid m_firstMove m_seens m_time m_waysNow m_fitting f hT hCV _) (cwV 0 hts gX9_turned_X9_claimsNow rfl rfl rfl (by decide +kernel) ⟨Nat.le_of_ble_eq_true rfl, Nat.le_of_ble_eq_true rfl⟩) (by decide) 9 e48 rfl rfl hl.1 rfl (Nat.le_of_ble_eq_true rfl) dX9_turned_23 ⟨Nat.le_of_ble_eq_true rfl, Nat.le_of_ble_eq_true rfl⟩ (fun r f H locs hw hP hD hS => ?_)
    obtain ⟨hrs, x49, x50, y51, hT, h52⟩ := hw
    obtain ⟨x53, rfl⟩ : ∃ q, q = r := ⟨_, rfl⟩
    have h54 := hrs
    exact tI hx hb hr hlk rfl hP hS ⟨(by omega), ⟨x49, x50, y51, x18, x19, hT, by omega⟩⟩ dX9_turned_26
  · have kc1 := c_eq c1
    refine lv_iconst (v := (-1)) hx hb dX9_turned_4 (by decide) ?_
    have ttl_m1 := tl_m1
    exact tI hx hb hr hlk rfl hP hS ⟨(by omega), ⟨m_askStrand, m_askTied, c_roundOf, m_acts, m_undone, hT, by omega⟩⟩ dX9_turned_5
set_option maxHeartbeats 4000000 in
set_option maxRecDepth 100000 in
theorem s_X9_cut_0 (l : Launch) (B0 : Nat) (adK adV : Nat → Nat) (D : va_G) (cy : Nat → ClassId) (ad : Nat → Nat) (fr0 : Nat → va_E) (c_text : Nat → Int32) (m_taped : Int32) (m_size : Int32) (m_faultKind : Int32) (m_faultPlace : Int32) (m_at : Int32) (m_end : Int32) (m_token : Int32) (m_number : Int32) (m_name : Int64) (c_points : Nat → Int32) (c_strands : Nat → Int32) (c_units : Nat → Int32) (c_told : Nat → Int32) (c_ruleFrom : Nat → Int32) (c_ruleTo : Nat → Int32) (c_code : Nat → Int32) (c_eWhat : Nat → Int32) (c_eSign : Nat → Int32) (m_bank : Int32) (m_rb : Int32) (m_codes : Int32) (m_within : Int32) (m_piled : Int32) (m_unitsInRule : Int32) (m_askStrand : Int32) (m_askTied : Int32) (m_thoughtClaim : Int32) (m_thoughtNeed : Int32) (m_thoughtAll : Int32) (c_roundOf : Nat → Int32) (m_acts : Int32) (m_undone : Int32) (m_laid : Int32) (m_firstMove : Int32) (m_seens : Int32) (m_time : Int32) (m_waysNow : Int32) (m_fitting : Int32) (f : Nat → va_E) (hT : TYm ad cy fr0 c_text m_taped m_size m_faultKind m_faultPlace m_at m_end m_token m_number m_name c_points c_strands c_units c_told c_ruleFrom c_ruleTo c_code c_eWhat c_eSign m_bank m_rb m_codes m_within m_piled m_unitsInRule m_askStrand m_askTied m_thoughtClaim m_thoughtNeed m_thoughtAll c_roundOf m_acts m_undone m_laid m_firstMove m_seens m_time m_waysNow m_fitting f) (p1 : Int32) (hh0 : m_acts.toInt + m_undone.toInt ≤ 40 ∧ 0 ≤ m_undone.toInt) (hCV : CVp c_told c_ruleFrom c_ruleTo c_code m_bank) (sz : Nat) : TtI l yX9_cut wsX9_cut 9 201 [.ref (ad 148), .int p1] B0 adK adV D cy ad f sz (fun (r : Int32) (g : Nat → va_E) => (-1 ≤ r.toInt ∧ r.toInt ≤ 32) ∧ (∃ (m_askStrand' : Int32) (m_askTied' : Int32) (c_roundOf' : Nat → Int32) (m_acts' : Int32) (m_undone' : Int32), TYm ad cy fr0 c_text m_taped m_size m_faultKind m_faultPlace m_at m_end m_token m_number m_name c_points c_strands c_units c_told c_ruleFrom c_ruleTo c_code c_eWhat c_eSign m_bank m_rb m_codes m_within m_piled m_unitsInRule m_askStrand' m_askTied' m_thoughtClaim m_thoughtNeed m_thoughtAll c_roundOf' m_acts' m_undone' m_laid m_firstMove m_seens m_time m_waysNow m_fitting g ∧ (m_acts'.toInt + m_undone'.toInt ≤ 40 ∧ 0 ≤ m_undone'.toInt))) := by
  refine TtI.of (cc := cX9_cut) (maxL := 2) (ty := .int) (own := RX9) (by decide) rfl (Nat.le_of_ble_eq_true rfl) rfl ?_
  intro p e s m below meth c A ls hx hb hr hml hts hown hlk hK hE hP hD hS hA hAB hl
  have hl : lv_has ls 2 [(0, .ref (ad 148)), (1, .int p1)] := hl
  refine st0 (fun H locs hP hS => ?_) hP hS
  refine lv_aload_n hx hb dX9_cut_0 rfl (lv_at hl 0 rfl) ?_
  refine lv_iconst (v := 1) hx hb dX9_cut_1 (by decide) ?_
  refine lv_iload_n hx hb dX9_cut_2 rfl (lv_at hl 1 rfl) ?_
  refine lv_aload_n hx hb dX9_cut_3 rfl (lv_at hl 0 rfl) ?_
  refine lv_iload_n hx hb dX9_cut_4 rfl (lv_at hl 1 rfl) ?_
  obtain ⟨e16, h1, h2, h3, h4, h5, h6, h7, h8, h9, h10, h11, h12, h13, h14, h15⟩ := (show okX9 ad m_taped m_size m_faultKind m_faultPlace m_at m_end m_token m_number m_name m_bank m_rb m_codes m_within m_piled m_unitsInRule m_askStrand m_askTied m_thoughtClaim m_thoughtNeed m_thoughtAll m_acts m_undone m_laid m_firstMove m_seens m_time m_waysNow m_fitting 148 (f 148) from hT.1 148 (by decide))
  refine tVI (As := [.int p1]) (rest := [.int p1, .int 1, .ref (ad 148)]) (i := 148) ⟨hx, hb, hml, hown, hts⟩ hK hE hP hD hS hA hAB (s_X9_isThread_0 l B0 adK adV D cy ad fr0 c_text m_taped m_size m_faultKind m_faultPlace m_at m_end m_token m_number m_name c_points c_strands c_units c_told c_ruleFrom c_ruleTo c_code c_eWhat c_eSign m_bank m_rb m_codes m_within m_piled m_unitsInRule m_askStrand m_askTied m_thoughtClaim m_thoughtNeed m_thoughtAll c_roundOf m_acts m_undone m_laid m_firstMove m_seens m_time m_waysNow m_fitting f hT p1 _) (cwV 1 hts gX9_cut_X9_isThread rfl rfl rfl (by decide +kernel) ⟨Nat.le_of_ble_eq_true rfl, Nat.le_of_ble_eq_true rfl⟩) (by decide) 9 e16 rfl rfl hl.1 rfl (Nat.le_of_ble_eq_true rfl) dX9_cut_5 ⟨Nat.le_of_ble_eq_true rfl, Nat.le_of_ble_eq_true rfl⟩ (fun r g H locs hw hP hD hS => ?_)
  obtain ⟨hrs, rfl⟩ := hw
  obtain ⟨x17, rfl⟩ : ∃ q, q = r := ⟨_, rfl⟩
  rcases hrs with ⟨rfl, h18, h19⟩ | rfl
  · refine lv_if_eq (tgt := 28) hx hb dX9_cut_8 (by decide) (fun c => absurd c (by decide)) (fun _ => ?_)
    refine lv_aload_n hx hb dX9_cut_11 rfl (lv_at hl 0 rfl) ?_
    refine va_get (D := D) (cl := vwCl) (ci := 9) (v := .ref (ad 169)) (C := RX9) (T := TX9) (N := 64) hx hb hts in_X9_cut_X9 hown hK hP 148 (wl_at (by decide) e16) rfl 37 (by decide) (hts (.fieldLink RX9 76 "EightReasonsModel" "all" "[I") (List.mem_of_getElem? (i := 1) rfl)) (fun _ h9 => h9) rfl dX9_cut_12 ?_
    refine lv_iconst (v := 1) hx hb dX9_cut_15 (by decide) ?_
    obtain ⟨g22, e20, h21⟩ := (show okIr cy 16 (0) (4095) 16 1 (f 169) from hT.1 169 (by decide))
    have ttl_1 := tl_1
    refine va_iald hx hb hK hP 169 0 (wl_at (by decide) e20) rfl (vin (by decide)) dX9_cut_16 ?_
    refine lv_topi (fun x23 ex23 => ?_)
    have hx23 := r_el (h21 _ (by decide)) ex23
    refine lv_iload_n hx hb dX9_cut_17 rfl (lv_at hl 1 rfl) ?_
    refine tSI (As := [.int x23, .int p1]) (rest := [.int p1, .int 1, .ref (ad 148)]) ⟨hx, hb, hml, hown, hts⟩ hK hE hP hD hS hA hAB (s_X9_bit_0 l B0 adK adV D cy ad f x23 p1 (by omega) _) (va_cwS 2 hts gX9_cut_X9_bit rfl rfl rfl (by decide +kernel) ⟨Nat.le_of_ble_eq_true rfl, Nat.le_of_ble_eq_true rfl⟩) rfl hl.1 rfl (Nat.le_of_ble_eq_true rfl) dX9_cut_18 ⟨Nat.le_of_ble_eq_true rfl, Nat.le_of_ble_eq_true rfl⟩ (fun r g H locs hw hP hD hS => ?_)
    obtain ⟨hrs, rfl⟩ := hw
    obtain ⟨x24, rfl⟩ : ∃ q, q = r := ⟨_, rfl⟩
    rcases hrs with ⟨rfl, h25⟩ | ⟨rfl, h26⟩
    · refine lv_if_eq (tgt := 28) hx hb dX9_cut_21 (by decide) (fun c => absurd c (by decide)) (fun _ => ?_)
      refine lv_iconst (v := 1) hx hb dX9_cut_24 (by decide) ?_
      refine lv_goto (tgt := 29) hx hb dX9_cut_25 (by decide) ?_
      refine tVI (As := [.int 1, .int p1, .int 1]) (rest := []) (i := 148) ⟨hx, hb, hml, hown, hts⟩ hK hE hP hD hS hA hAB (s_X9_turned_0 l B0 adK adV D cy ad fr0 c_text m_taped m_size m_faultKind m_faultPlace m_at m_end m_token m_number m_name c_points c_strands c_units c_told c_ruleFrom c_ruleTo c_code c_eWhat c_eSign m_bank m_rb m_codes m_within m_piled m_unitsInRule m_askStrand m_askTied m_thoughtClaim m_thoughtNeed m_thoughtAll c_roundOf m_acts m_undone m_laid m_firstMove m_seens m_time m_waysNow m_fitting f hT p1 (1 : Int32) (by omega) (by omega) (by omega) hCV _) (cwV 3 hts gX9_cut_X9_turned rfl rfl rfl (by decide +kernel) ⟨Nat.le_of_ble_eq_true rfl, Nat.le_of_ble_eq_true rfl⟩) (by decide) 9 e16 rfl rfl hl.1 rfl (Nat.le_of_ble_eq_true rfl) dX9_cut_29 ⟨Nat.le_of_ble_eq_true rfl, Nat.le_of_ble_eq_true rfl⟩ (fun r f H locs hw hP hD hS => ?_)
      obtain ⟨hrs, x27, x28, y29, x30, x31, hT, h32⟩ := hw
      obtain ⟨x33, rfl⟩ : ∃ q, q = r := ⟨_, rfl⟩
      have h34 := hrs
      exact tI hx hb hr hlk rfl hP hS ⟨(by omega), ⟨x27, x28, y29, x30, x31, hT, by omega⟩⟩ dX9_cut_32
    · refine lv_if_eq (tgt := 28) hx hb dX9_cut_21 (by decide) (fun _ => ?_) (fun c => absurd (by decide) c)
      refine lv_iconst (v := 0) hx hb dX9_cut_28 (by decide) ?_
      have ttl_0 := tl_0
      refine tVI (As := [.int 1, .int p1, .int 0]) (rest := []) (i := 148) ⟨hx, hb, hml, hown, hts⟩ hK hE hP hD hS hA hAB (s_X9_turned_0 l B0 adK adV D cy ad fr0 c_text m_taped m_size m_faultKind m_faultPlace m_at m_end m_token m_number m_name c_points c_strands c_units c_told c_ruleFrom c_ruleTo c_code c_eWhat c_eSign m_bank m_rb m_codes m_within m_piled m_unitsInRule m_askStrand m_askTied m_thoughtClaim m_thoughtNeed m_thoughtAll c_roundOf m_acts m_undone m_laid m_firstMove m_seens m_time m_waysNow m_fitting f hT p1 (0 : Int32) (by omega) (by omega) (by omega) hCV _) (cwV 3 hts gX9_cut_X9_turned rfl rfl rfl (by decide +kernel) ⟨Nat.le_of_ble_eq_true rfl, Nat.le_of_ble_eq_true rfl⟩) (by decide) 9 e16 rfl rfl hl.1 rfl (Nat.le_of_ble_eq_true rfl) dX9_cut_29 ⟨Nat.le_of_ble_eq_true rfl, Nat.le_of_ble_eq_true rfl⟩ (fun r f H locs hw hP hD hS => ?_)
      obtain ⟨hrs, x35, x36, y37, x38, x39, hT, h40⟩ := hw
      obtain ⟨x41, rfl⟩ : ∃ q, q = r := ⟨_, rfl⟩
      have h42 := hrs
      exact tI hx hb hr hlk rfl hP hS ⟨(by omega), ⟨x35, x36, y37, x38, x39, hT, by omega⟩⟩ dX9_cut_32
  · refine lv_if_eq (tgt := 28) hx hb dX9_cut_8 (by decide) (fun _ => ?_) (fun c => absurd (by decide) c)
    refine lv_iconst (v := 0) hx hb dX9_cut_28 (by decide) ?_
    have ttl_1 := tl_1
    have ttl_0 := tl_0
    refine tVI (As := [.int 1, .int p1, .int 0]) (rest := []) (i := 148) ⟨hx, hb, hml, hown, hts⟩ hK hE hP hD hS hA hAB (s_X9_turned_0 l B0 adK adV D cy ad fr0 c_text m_taped m_size m_faultKind m_faultPlace m_at m_end m_token m_number m_name c_points c_strands c_units c_told c_ruleFrom c_ruleTo c_code c_eWhat c_eSign m_bank m_rb m_codes m_within m_piled m_unitsInRule m_askStrand m_askTied m_thoughtClaim m_thoughtNeed m_thoughtAll c_roundOf m_acts m_undone m_laid m_firstMove m_seens m_time m_waysNow m_fitting f hT p1 (0 : Int32) (by omega) (by omega) (by omega) hCV _) (cwV 3 hts gX9_cut_X9_turned rfl rfl rfl (by decide +kernel) ⟨Nat.le_of_ble_eq_true rfl, Nat.le_of_ble_eq_true rfl⟩) (by decide) 9 e16 rfl rfl hl.1 rfl (Nat.le_of_ble_eq_true rfl) dX9_cut_29 ⟨Nat.le_of_ble_eq_true rfl, Nat.le_of_ble_eq_true rfl⟩ (fun r f H locs hw hP hD hS => ?_)
    obtain ⟨hrs, x43, x44, y45, x46, x47, hT, h48⟩ := hw
    obtain ⟨x49, rfl⟩ : ∃ q, q = r := ⟨_, rfl⟩
    have h50 := hrs
    exact tI hx hb hr hlk rfl hP hS ⟨(by omega), ⟨x43, x44, y45, x46, x47, hT, by omega⟩⟩ dX9_cut_32
set_option maxHeartbeats 4000000 in
set_option maxRecDepth 100000 in
theorem s_X9_tie_0 (l : Launch) (B0 : Nat) (adK adV : Nat → Nat) (D : va_G) (cy : Nat → ClassId) (ad : Nat → Nat) (fr0 : Nat → va_E) (c_text : Nat → Int32) (m_taped : Int32) (m_size : Int32) (m_faultKind : Int32) (m_faultPlace : Int32) (m_at : Int32) (m_end : Int32) (m_token : Int32) (m_number : Int32) (m_name : Int64) (c_points : Nat → Int32) (c_strands : Nat → Int32) (c_units : Nat → Int32) (c_told : Nat → Int32) (c_ruleFrom : Nat → Int32) (c_ruleTo : Nat → Int32) (c_code : Nat → Int32) (c_eWhat : Nat → Int32) (c_eSign : Nat → Int32) (m_bank : Int32) (m_rb : Int32) (m_codes : Int32) (m_within : Int32) (m_piled : Int32) (m_unitsInRule : Int32) (m_askStrand : Int32) (m_askTied : Int32) (m_thoughtClaim : Int32) (m_thoughtNeed : Int32) (m_thoughtAll : Int32) (c_roundOf : Nat → Int32) (m_acts : Int32) (m_undone : Int32) (m_laid : Int32) (m_firstMove : Int32) (m_seens : Int32) (m_time : Int32) (m_waysNow : Int32) (m_fitting : Int32) (f : Nat → va_E) (hT : TYm ad cy fr0 c_text m_taped m_size m_faultKind m_faultPlace m_at m_end m_token m_number m_name c_points c_strands c_units c_told c_ruleFrom c_ruleTo c_code c_eWhat c_eSign m_bank m_rb m_codes m_within m_piled m_unitsInRule m_askStrand m_askTied m_thoughtClaim m_thoughtNeed m_thoughtAll c_roundOf m_acts m_undone m_laid m_firstMove m_seens m_time m_waysNow m_fitting f) (p1 : Int32) (hh0 : m_acts.toInt + m_undone.toInt ≤ 40 ∧ 0 ≤ m_undone.toInt) (hCV : CVp c_told c_ruleFrom c_ruleTo c_code m_bank) (sz : Nat) : TtI l yX9_tie wsX9_tie 9 201 [.ref (ad 148), .int p1] B0 adK adV D cy ad f sz (fun (r : Int32) (g : Nat → va_E) => (-1 ≤ r.toInt ∧ r.toInt ≤ 32) ∧ (∃ (m_askStrand' : Int32) (m_askTied' : Int32) (c_roundOf' : Nat → Int32) (m_acts' : Int32) (m_undone' : Int32), TYm ad cy fr0 c_text m_taped m_size m_faultKind m_faultPlace m_at m_end m_token m_number m_name c_points c_strands c_units c_told c_ruleFrom c_ruleTo c_code c_eWhat c_eSign m_bank m_rb m_codes m_within m_piled m_unitsInRule m_askStrand' m_askTied' m_thoughtClaim m_thoughtNeed m_thoughtAll c_roundOf' m_acts' m_undone' m_laid m_firstMove m_seens m_time m_waysNow m_fitting g ∧ (m_acts'.toInt + m_undone'.toInt ≤ 40 ∧ 0 ≤ m_undone'.toInt))) := by
  refine TtI.of (cc := cX9_tie) (maxL := 2) (ty := .int) (own := RX9) (by decide) rfl (Nat.le_of_ble_eq_true rfl) rfl ?_
  intro p e s m below meth c A ls hx hb hr hml hts hown hlk hK hE hP hD hS hA hAB hl
  have hl : lv_has ls 2 [(0, .ref (ad 148)), (1, .int p1)] := hl
  refine st0 (fun H locs hP hS => ?_) hP hS
  refine lv_aload_n hx hb dX9_tie_0 rfl (lv_at hl 0 rfl) ?_
  refine lv_iconst (v := 1) hx hb dX9_tie_1 (by decide) ?_
  refine lv_iload_n hx hb dX9_tie_2 rfl (lv_at hl 1 rfl) ?_
  refine lv_aload_n hx hb dX9_tie_3 rfl (lv_at hl 0 rfl) ?_
  refine lv_iload_n hx hb dX9_tie_4 rfl (lv_at hl 1 rfl) ?_
  obtain ⟨e16, h1, h2, h3, h4, h5, h6, h7, h8, h9, h10, h11, h12, h13, h14, h15⟩ := (show okX9 ad m_taped m_size m_faultKind m_faultPlace m_at m_end m_token m_number m_name m_bank m_rb m_codes m_within m_piled m_unitsInRule m_askStrand m_askTied m_thoughtClaim m_thoughtNeed m_thoughtAll m_acts m_undone m_laid m_firstMove m_seens m_time m_waysNow m_fitting 148 (f 148) from hT.1 148 (by decide))
  refine tVI (As := [.int p1]) (rest := [.int p1, .int 1, .ref (ad 148)]) (i := 148) ⟨hx, hb, hml, hown, hts⟩ hK hE hP hD hS hA hAB (s_X9_isThread_0 l B0 adK adV D cy ad fr0 c_text m_taped m_size m_faultKind m_faultPlace m_at m_end m_token m_number m_name c_points c_strands c_units c_told c_ruleFrom c_ruleTo c_code c_eWhat c_eSign m_bank m_rb m_codes m_within m_piled m_unitsInRule m_askStrand m_askTied m_thoughtClaim m_thoughtNeed m_thoughtAll c_roundOf m_acts m_undone m_laid m_firstMove m_seens m_time m_waysNow m_fitting f hT p1 _) (cwV 1 hts gX9_tie_X9_isThread rfl rfl rfl (by decide +kernel) ⟨Nat.le_of_ble_eq_true rfl, Nat.le_of_ble_eq_true rfl⟩) (by decide) 9 e16 rfl rfl hl.1 rfl (Nat.le_of_ble_eq_true rfl) dX9_tie_5 ⟨Nat.le_of_ble_eq_true rfl, Nat.le_of_ble_eq_true rfl⟩ (fun r g H locs hw hP hD hS => ?_)
  obtain ⟨hrs, rfl⟩ := hw
  obtain ⟨x17, rfl⟩ : ∃ q, q = r := ⟨_, rfl⟩
  rcases hrs with ⟨rfl, h18, h19⟩ | rfl
  · refine lv_if_eq (tgt := 28) hx hb dX9_tie_8 (by decide) (fun c => absurd c (by decide)) (fun _ => ?_)
    refine lv_aload_n hx hb dX9_tie_11 rfl (lv_at hl 0 rfl) ?_
    refine va_get (D := D) (cl := vwCl) (ci := 9) (v := .ref (ad 169)) (C := RX9) (T := TX9) (N := 64) hx hb hts in_X9_tie_X9 hown hK hP 148 (wl_at (by decide) e16) rfl 37 (by decide) (hts (.fieldLink RX9 76 "EightReasonsModel" "all" "[I") (List.mem_of_getElem? (i := 1) rfl)) (fun _ h9 => h9) rfl dX9_tie_12 ?_
    refine lv_iconst (v := 1) hx hb dX9_tie_15 (by decide) ?_
    obtain ⟨g22, e20, h21⟩ := (show okIr cy 16 (0) (4095) 16 1 (f 169) from hT.1 169 (by decide))
    have ttl_1 := tl_1
    refine va_iald hx hb hK hP 169 0 (wl_at (by decide) e20) rfl (vin (by decide)) dX9_tie_16 ?_
    refine lv_topi (fun x23 ex23 => ?_)
    have hx23 := r_el (h21 _ (by decide)) ex23
    refine lv_iload_n hx hb dX9_tie_17 rfl (lv_at hl 1 rfl) ?_
    refine tSI (As := [.int x23, .int p1]) (rest := [.int p1, .int 1, .ref (ad 148)]) ⟨hx, hb, hml, hown, hts⟩ hK hE hP hD hS hA hAB (s_X9_bit_0 l B0 adK adV D cy ad f x23 p1 (by omega) _) (va_cwS 2 hts gX9_tie_X9_bit rfl rfl rfl (by decide +kernel) ⟨Nat.le_of_ble_eq_true rfl, Nat.le_of_ble_eq_true rfl⟩) rfl hl.1 rfl (Nat.le_of_ble_eq_true rfl) dX9_tie_18 ⟨Nat.le_of_ble_eq_true rfl, Nat.le_of_ble_eq_true rfl⟩ (fun r g H locs hw hP hD hS => ?_)
    obtain ⟨hrs, rfl⟩ := hw
    obtain ⟨x24, rfl⟩ : ∃ q, q = r := ⟨_, rfl⟩
    rcases hrs with ⟨rfl, h25⟩ | ⟨rfl, h26⟩
    · refine lv_if_ne (tgt := 28) hx hb dX9_tie_21 (by decide) (fun _ => ?_) (fun c => absurd c (by decide))
      refine lv_iconst (v := 0) hx hb dX9_tie_28 (by decide) ?_
      have ttl_0 := tl_0
      refine tVI (As := [.int 1, .int p1, .int 0]) (rest := []) (i := 148) ⟨hx, hb, hml, hown, hts⟩ hK hE hP hD hS hA hAB (s_X9_turned_0 l B0 adK adV D cy ad fr0 c_text m_taped m_size m_faultKind m_faultPlace m_at m_end m_token m_number m_name c_points c_strands c_units c_told c_ruleFrom c_ruleTo c_code c_eWhat c_eSign m_bank m_rb m_codes m_within m_piled m_unitsInRule m_askStrand m_askTied m_thoughtClaim m_thoughtNeed m_thoughtAll c_roundOf m_acts m_undone m_laid m_firstMove m_seens m_time m_waysNow m_fitting f hT p1 (0 : Int32) (by omega) (by omega) (by omega) hCV _) (cwV 3 hts gX9_tie_X9_turned rfl rfl rfl (by decide +kernel) ⟨Nat.le_of_ble_eq_true rfl, Nat.le_of_ble_eq_true rfl⟩) (by decide) 9 e16 rfl rfl hl.1 rfl (Nat.le_of_ble_eq_true rfl) dX9_tie_29 ⟨Nat.le_of_ble_eq_true rfl, Nat.le_of_ble_eq_true rfl⟩ (fun r f H locs hw hP hD hS => ?_)
      obtain ⟨hrs, x27, x28, y29, x30, x31, hT, h32⟩ := hw
      obtain ⟨x33, rfl⟩ : ∃ q, q = r := ⟨_, rfl⟩
      have h34 := hrs
      exact tI hx hb hr hlk rfl hP hS ⟨(by omega), ⟨x27, x28, y29, x30, x31, hT, by omega⟩⟩ dX9_tie_32
    · refine lv_if_ne (tgt := 28) hx hb dX9_tie_21 (by decide) (fun c => absurd (by decide) c) (fun _ => ?_)
      refine lv_iconst (v := 1) hx hb dX9_tie_24 (by decide) ?_
      refine lv_goto (tgt := 29) hx hb dX9_tie_25 (by decide) ?_
      refine tVI (As := [.int 1, .int p1, .int 1]) (rest := []) (i := 148) ⟨hx, hb, hml, hown, hts⟩ hK hE hP hD hS hA hAB (s_X9_turned_0 l B0 adK adV D cy ad fr0 c_text m_taped m_size m_faultKind m_faultPlace m_at m_end m_token m_number m_name c_points c_strands c_units c_told c_ruleFrom c_ruleTo c_code c_eWhat c_eSign m_bank m_rb m_codes m_within m_piled m_unitsInRule m_askStrand m_askTied m_thoughtClaim m_thoughtNeed m_thoughtAll c_roundOf m_acts m_undone m_laid m_firstMove m_seens m_time m_waysNow m_fitting f hT p1 (1 : Int32) (by omega) (by omega) (by omega) hCV _) (cwV 3 hts gX9_tie_X9_turned rfl rfl rfl (by decide +kernel) ⟨Nat.le_of_ble_eq_true rfl, Nat.le_of_ble_eq_true rfl⟩) (by decide) 9 e16 rfl rfl hl.1 rfl (Nat.le_of_ble_eq_true rfl) dX9_tie_29 ⟨Nat.le_of_ble_eq_true rfl, Nat.le_of_ble_eq_true rfl⟩ (fun r f H locs hw hP hD hS => ?_)
      obtain ⟨hrs, x35, x36, y37, x38, x39, hT, h40⟩ := hw
      obtain ⟨x41, rfl⟩ : ∃ q, q = r := ⟨_, rfl⟩
      have h42 := hrs
      exact tI hx hb hr hlk rfl hP hS ⟨(by omega), ⟨x35, x36, y37, x38, x39, hT, by omega⟩⟩ dX9_tie_32
  · refine lv_if_eq (tgt := 28) hx hb dX9_tie_8 (by decide) (fun _ => ?_) (fun c => absurd (by decide) c)
    refine lv_iconst (v := 0) hx hb dX9_tie_28 (by decide) ?_
    have ttl_1 := tl_1
    have ttl_0 := tl_0
    refine tVI (As := [.int 1, .int p1, .int 0]) (rest := []) (i := 148) ⟨hx, hb, hml, hown, hts⟩ hK hE hP hD hS hA hAB (s_X9_turned_0 l B0 adK adV D cy ad fr0 c_text m_taped m_size m_faultKind m_faultPlace m_at m_end m_token m_number m_name c_points c_strands c_units c_told c_ruleFrom c_ruleTo c_code c_eWhat c_eSign m_bank m_rb m_codes m_within m_piled m_unitsInRule m_askStrand m_askTied m_thoughtClaim m_thoughtNeed m_thoughtAll c_roundOf m_acts m_undone m_laid m_firstMove m_seens m_time m_waysNow m_fitting f hT p1 (0 : Int32) (by omega) (by omega) (by omega) hCV _) (cwV 3 hts gX9_tie_X9_turned rfl rfl rfl (by decide +kernel) ⟨Nat.le_of_ble_eq_true rfl, Nat.le_of_ble_eq_true rfl⟩) (by decide) 9 e16 rfl rfl hl.1 rfl (Nat.le_of_ble_eq_true rfl) dX9_tie_29 ⟨Nat.le_of_ble_eq_true rfl, Nat.le_of_ble_eq_true rfl⟩ (fun r f H locs hw hP hD hS => ?_)
    obtain ⟨hrs, x43, x44, y45, x46, x47, hT, h48⟩ := hw
    obtain ⟨x49, rfl⟩ : ∃ q, q = r := ⟨_, rfl⟩
    have h50 := hrs
    exact tI hx hb hr hlk rfl hP hS ⟨(by omega), ⟨x43, x44, y45, x46, x47, hT, by omega⟩⟩ dX9_tie_32
set_option maxHeartbeats 4000000 in
set_option maxRecDepth 100000 in
theorem s_X9_tighten_0 (l : Launch) (B0 : Nat) (adK adV : Nat → Nat) (D : va_G) (cy : Nat → ClassId) (ad : Nat → Nat) (fr0 : Nat → va_E) (c_text : Nat → Int32) (m_taped : Int32) (m_size : Int32) (m_faultKind : Int32) (m_faultPlace : Int32) (m_at : Int32) (m_end : Int32) (m_token : Int32) (m_number : Int32) (m_name : Int64) (c_points : Nat → Int32) (c_strands : Nat → Int32) (c_units : Nat → Int32) (c_told : Nat → Int32) (c_ruleFrom : Nat → Int32) (c_ruleTo : Nat → Int32) (c_code : Nat → Int32) (c_eWhat : Nat → Int32) (c_eSign : Nat → Int32) (m_bank : Int32) (m_rb : Int32) (m_codes : Int32) (m_within : Int32) (m_piled : Int32) (m_unitsInRule : Int32) (m_askStrand : Int32) (m_askTied : Int32) (m_thoughtClaim : Int32) (m_thoughtNeed : Int32) (m_thoughtAll : Int32) (c_roundOf : Nat → Int32) (m_acts : Int32) (m_undone : Int32) (m_laid : Int32) (m_firstMove : Int32) (m_seens : Int32) (m_time : Int32) (m_waysNow : Int32) (m_fitting : Int32) (f : Nat → va_E) (hT : TYm ad cy fr0 c_text m_taped m_size m_faultKind m_faultPlace m_at m_end m_token m_number m_name c_points c_strands c_units c_told c_ruleFrom c_ruleTo c_code c_eWhat c_eSign m_bank m_rb m_codes m_within m_piled m_unitsInRule m_askStrand m_askTied m_thoughtClaim m_thoughtNeed m_thoughtAll c_roundOf m_acts m_undone m_laid m_firstMove m_seens m_time m_waysNow m_fitting f) (p1 : Int32) (p2 : Int32) (hh0 : m_acts.toInt + m_undone.toInt ≤ 40 ∧ 0 ≤ m_undone.toInt) (sz : Nat) : TtI l yX9_tighten wsX9_tighten 2 43 [.ref (ad 148), .int p1, .int p2] B0 adK adV D cy ad f sz (fun (r : Int32) (g : Nat → va_E) => True ∧ (∃ (m_acts' : Int32) (m_undone' : Int32), TYm ad cy fr0 c_text m_taped m_size m_faultKind m_faultPlace m_at m_end m_token m_number m_name c_points c_strands c_units c_told c_ruleFrom c_ruleTo c_code c_eWhat c_eSign m_bank m_rb m_codes m_within m_piled m_unitsInRule m_askStrand m_askTied m_thoughtClaim m_thoughtNeed m_thoughtAll c_roundOf m_acts' m_undone' m_laid m_firstMove m_seens m_time m_waysNow m_fitting g ∧ (m_acts'.toInt + m_undone'.toInt ≤ 40 ∧ 0 ≤ m_undone'.toInt))) := by
  refine TtI.of (cc := cX9_tighten) (maxL := 4) (ty := .int) (own := RX9) (by decide) rfl (Nat.le_of_ble_eq_true rfl) rfl ?_
  intro p e s m below meth c A ls hx hb hr hml hts hown hlk hK hE hP hD hS hA hAB hl
  have hl : lv_has ls 4 [(0, .ref (ad 148)), (1, .int p1), (2, .int p2)] := hl
  refine st0 (fun H locs hP hS => ?_) hP hS
  refine lv_aload_n hx hb dX9_tighten_0 rfl (lv_at hl 0 rfl) ?_
  refine lv_iload_n hx hb dX9_tighten_1 rfl (lv_at hl 1 rfl) ?_
  obtain ⟨e16, h1, h2, h3, h4, h5, h6, h7, h8, h9, h10, h11, h12, h13, h14, h15⟩ := (show okX9 ad m_taped m_size m_faultKind m_faultPlace m_at m_end m_token m_number m_name m_bank m_rb m_codes m_within m_piled m_unitsInRule m_askStrand m_askTied m_thoughtClaim m_thoughtNeed m_thoughtAll m_acts m_undone m_laid m_firstMove m_seens m_time m_waysNow m_fitting 148 (f 148) from hT.1 148 (by decide))
  refine tVI (As := [.int p1]) (rest := []) (i := 148) ⟨hx, hb, hml, hown, hts⟩ hK hE hP hD hS hA hAB (s_X9_isThread_0 l B0 adK adV D cy ad fr0 c_text m_taped m_size m_faultKind m_faultPlace m_at m_end m_token m_number m_name c_points c_strands c_units c_told c_ruleFrom c_ruleTo c_code c_eWhat c_eSign m_bank m_rb m_codes m_within m_piled m_unitsInRule m_askStrand m_askTied m_thoughtClaim m_thoughtNeed m_thoughtAll c_roundOf m_acts m_undone m_laid m_firstMove m_seens m_time m_waysNow m_fitting f hT p1 _) (cwV 1 hts gX9_tighten_X9_isThread rfl rfl rfl (by decide +kernel) ⟨Nat.le_of_ble_eq_true rfl, Nat.le_of_ble_eq_true rfl⟩) (by decide) 9 e16 rfl rfl hl.1 rfl (Nat.le_of_ble_eq_true rfl) dX9_tighten_2 ⟨Nat.le_of_ble_eq_true rfl, Nat.le_of_ble_eq_true rfl⟩ (fun r g H locs hw hP hD hS => ?_)
  obtain ⟨hrs, rfl⟩ := hw
  obtain ⟨x17, rfl⟩ : ∃ q, q = r := ⟨_, rfl⟩
  rcases hrs with ⟨rfl, h18, h19⟩ | rfl
  · refine lv_if_eq (tgt := 30) hx hb dX9_tighten_5 (by decide) (fun c => absurd c (by decide)) (fun _ => ?_)
    refine lv_iload_n hx hb dX9_tighten_8 rfl (lv_at hl 2 rfl) ?_
    refine lv_iconst (v := 0) hx hb dX9_tighten_9 (by decide) ?_
    refine lv_bipush (v := 20) hx hb dX9_tighten_10 (by decide) ?_
    have ttl_0 := tl_0
    have ttl_20 := tl_20
    refine tSI (As := [.int p2, .int 0, .int 20]) (rest := []) ⟨hx, hb, hml, hown, hts⟩ hK hE hP hD hS hA hAB (s_X9_isIn_0 l B0 adK adV D cy ad f p2 (0 : Int32) (by omega) (20 : Int32) (by omega) _) (va_cwS 3 hts gX9_tighten_X9_isIn rfl rfl rfl (by decide +kernel) ⟨Nat.le_of_ble_eq_true rfl, Nat.le_of_ble_eq_true rfl⟩) rfl hl.1 rfl (Nat.le_of_ble_eq_true rfl) dX9_tighten_12 ⟨Nat.le_of_ble_eq_true rfl, Nat.le_of_ble_eq_true rfl⟩ (fun r g H locs hw hP hD hS => ?_)
    obtain ⟨hrs, rfl⟩ := hw
    obtain ⟨x20, rfl⟩ : ∃ q, q = r := ⟨_, rfl⟩
    rcases hrs with ⟨rfl, h21, h22⟩ | rfl
    · refine lv_if_eq (tgt := 30) hx hb dX9_tighten_15 (by decide) (fun c => absurd c (by decide)) (fun _ => ?_)
      refine lv_aload_n hx hb dX9_tighten_18 rfl (lv_at hl 0 rfl) ?_
      refine va_get (D := D) (cl := vwCl) (ci := 9) (v := .ref (ad 169)) (C := RX9) (T := TX9) (N := 64) hx hb hts in_X9_tighten_X9 hown hK hP 148 (wl_at (by decide) e16) rfl 37 (by decide) (hts (.fieldLink RX9 76 "EightReasonsModel" "all" "[I") (List.mem_of_getElem? (i := 1) rfl)) (fun _ h9 => h9) rfl dX9_tighten_19 ?_
      refine lv_iconst (v := 2) hx hb dX9_tighten_22 (by decide) ?_
      refine lv_iload_n hx hb dX9_tighten_23 rfl (lv_at hl 1 rfl) ?_
      have ttl_2 := tl_2
      refine lv_iadd hx hb dX9_tighten_24 ?_
      refine lv_topi (fun x23 ex23 => ?_)
      have hx23 := r_add ex23 (by omega) (by omega)
      obtain ⟨g26, e24, h25⟩ := (show okIr cy 16 (0) (4095) 16 1 (f 169) from hT.1 169 (by decide))
      have hc27 := clampZ (x := x23) (by omega)
      refine va_iald hx hb hK hP 169 0 (wl_at (by decide) e24) rfl (vp_in_iff.mpr ⟨by omega, by omega⟩) dX9_tighten_25 ?_
      refine lv_topi (fun x28 ex28 => ?_)
      have hx28 := r_elc (h25 _) ex28
      refine lv_iload_n hx hb dX9_tighten_26 rfl (lv_at hl 2 rfl) ?_
      refine lv_icmp_ne (tgt := 32) hx hb dX9_tighten_27 (by decide) (fun c29 => ?_) (fun c29 => ?_)
      · have kc29 := c_ne c29
        refine lv_aload_n hx hb dX9_tighten_32 rfl (lv_at hl 0 rfl) ?_
        refine tVV (As := []) (rest := []) (i := 148) ⟨hx, hb, hml, hown, hts⟩ hK hE hP hD hS hA hAB (s_X9_keepAct_0 l B0 adK adV D cy ad fr0 c_text m_taped m_size m_faultKind m_faultPlace m_at m_end m_token m_number m_name c_points c_strands c_units c_told c_ruleFrom c_ruleTo c_code c_eWhat c_eSign m_bank m_rb m_codes m_within m_piled m_unitsInRule m_askStrand m_askTied m_thoughtClaim m_thoughtNeed m_thoughtAll c_roundOf m_acts m_undone m_laid m_firstMove m_seens m_time m_waysNow m_fitting f hT _) (cwV 0 hts gX9_tighten_X9_keepAct rfl rfl rfl (by decide +kernel) ⟨Nat.le_of_ble_eq_true rfl, Nat.le_of_ble_eq_true rfl⟩) (by decide) 9 e16 rfl rfl hl.1 rfl (Nat.le_of_ble_eq_true rfl) dX9_tighten_33 ⟨Nat.le_of_ble_eq_true rfl, Nat.le_of_ble_eq_true rfl⟩ (fun f H locs hw hP hD hS => ?_)
        obtain ⟨hrs, x30, x31, hT, h32, h33, h34⟩ := hw
        refine lv_aload_n hx hb dX9_tighten_36 rfl (lv_at hl 0 rfl) ?_
        obtain ⟨e50, h35, h36, h37, h38, h39, h40, h41, h42, h43, h44, h45, h46, h47, h48, h49⟩ := (show okX9 ad m_taped m_size m_faultKind m_faultPlace m_at m_end m_token m_number m_name m_bank m_rb m_codes m_within m_piled m_unitsInRule m_askStrand m_askTied m_thoughtClaim m_thoughtNeed m_thoughtAll x30 x31 m_laid m_firstMove m_seens m_time m_waysNow m_fitting 148 (f 148) from hT.1 148 (by decide))
        refine va_get (D := D) (cl := vwCl) (ci := 9) (v := .ref (ad 169)) (C := RX9) (T := TX9) (N := 64) hx hb hts in_X9_tighten_X9 hown hK hP 148 (wl_at (by decide) e50) rfl 37 (by decide) (hts (.fieldLink RX9 76 "EightReasonsModel" "all" "[I") (List.mem_of_getElem? (i := 1) rfl)) (fun _ h9 => h9) rfl dX9_tighten_37 ?_
        refine lv_iconst (v := 2) hx hb dX9_tighten_40 (by decide) ?_
        refine lv_iload_n hx hb dX9_tighten_41 rfl (lv_at hl 1 rfl) ?_
        refine lv_iadd hx hb dX9_tighten_42 ?_
        refine lv_topi (fun x51 ex51 => ?_)
        have hx51 := r_add ex51 (by omega) (by omega)
        obtain ⟨g54, e52, h53⟩ := (show okIr cy 16 (0) (4095) 16 1 (f 169) from hT.1 169 (by decide))
        have hc55 := clampZ (x := x51) (by omega)
        refine va_iald hx hb hK hP 169 0 (wl_at (by decide) e52) rfl (vp_in_iff.mpr ⟨by omega, by omega⟩) dX9_tighten_43 ?_
        refine lv_topi (fun x56 ex56 => ?_)
        have hx56 := r_elc (h53 _) ex56
        refine lv_istore_n (lv' := [(3, .int x56), (0, .ref (ad 148)), (1, .int p1), (2, .int p2)]) hx hb dX9_tighten_44 rfl hl (by decide) rfl (fun ls hl => ?_)
        refine lv_aload_n hx hb dX9_tighten_45 rfl (lv_at hl 1 rfl) ?_
        refine va_get (D := D) (cl := vwCl) (ci := 9) (v := .ref (ad 169)) (C := RX9) (T := TX9) (N := 64) hx hb hts in_X9_tighten_X9 hown hK hP 148 (wl_at (by decide) e50) rfl 37 (by decide) (hts (.fieldLink RX9 76 "EightReasonsModel" "all" "[I") (List.mem_of_getElem? (i := 1) rfl)) (fun _ h9 => h9) rfl dX9_tighten_46 ?_
        refine lv_iconst (v := 2) hx hb dX9_tighten_49 (by decide) ?_
        refine lv_iload_n hx hb dX9_tighten_50 rfl (lv_at hl 2 rfl) ?_
        refine lv_iadd hx hb dX9_tighten_51 ?_
        refine lv_topi (fun x57 ex57 => ?_)
        have hx57 := r_add ex57 (by omega) (by omega)
        refine lv_iload_n hx hb dX9_tighten_52 rfl (lv_at hl 3 rfl) ?_
        refine va_iast hx hb hK hP hD hS 169 0 (wl_at (by decide) e52) rfl (vp_in_iff.mpr ⟨by omega, by omega⟩) dX9_tighten_53 (fun H locs hP hD hS => ?_)
        obtain ⟨f, hT, hP, hD, e58, hj59⟩ := stU (by decide) (TYm.up hT (by decide) (show OKm ad cy c_text m_taped m_size m_faultKind m_faultPlace m_at m_end m_token m_number m_name c_points c_strands c_units c_told c_ruleFrom c_ruleTo c_code c_eWhat c_eSign m_bank m_rb m_codes m_within m_piled m_unitsInRule m_askStrand m_askTied m_thoughtClaim m_thoughtNeed m_thoughtAll c_roundOf x30 x31 m_laid m_firstMove m_seens m_time m_waysNow m_fitting 169 _ from (show okIr cy 16 (0) (4095) 16 1 _ from ⟨_, rfl, upd_r h53 (fun _ => by omega)⟩))) hP hD
        have e60 := (hj59 148 (by decide)).trans e50
        refine lv_iload_n hx hb dX9_tighten_54 rfl (lv_at hl 0 rfl) ?_
        exact tI hx hb hr hlk rfl hP hS ⟨trivial, ⟨x30, x31, hT, by omega⟩⟩ dX9_tighten_55
      · have kc29 := c_eq c29
        refine lv_iconst (v := (-1)) hx hb dX9_tighten_30 (by decide) ?_
        have ttl_m1 := tl_m1
        exact tI hx hb hr hlk rfl hP hS ⟨trivial, ⟨m_acts, m_undone, hT, by omega⟩⟩ dX9_tighten_31
    · refine lv_if_eq (tgt := 30) hx hb dX9_tighten_15 (by decide) (fun _ => ?_) (fun c => absurd (by decide) c)
      refine lv_iconst (v := (-1)) hx hb dX9_tighten_30 (by decide) ?_
      have ttl_m1 := tl_m1
      exact tI hx hb hr hlk rfl hP hS ⟨trivial, ⟨m_acts, m_undone, hT, by omega⟩⟩ dX9_tighten_31
  · refine lv_if_eq (tgt := 30) hx hb dX9_tighten_5 (by decide) (fun _ => ?_) (fun c => absurd (by decide) c)
    refine lv_iconst (v := (-1)) hx hb dX9_tighten_30 (by decide) ?_
    have ttl_m1 := tl_m1
    exact tI hx hb hr hlk rfl hP hS ⟨trivial, ⟨m_acts, m_undone, hT, by omega⟩⟩ dX9_tighten_31
set_option maxHeartbeats 4000000 in
set_option maxRecDepth 100000 in
theorem s_X9_turned_1 (l : Launch) (B0 : Nat) (adK adV : Nat → Nat) (D : va_G) (cy : Nat → ClassId) (ad : Nat → Nat) (fr0 : Nat → va_E) (c_text : Nat → Int32) (m_taped : Int32) (m_size : Int32) (m_faultKind : Int32) (m_faultPlace : Int32) (m_at : Int32) (m_end : Int32) (m_token : Int32) (m_number : Int32) (m_name : Int64) (c_points : Nat → Int32) (c_strands : Nat → Int32) (c_units : Nat → Int32) (c_told : Nat → Int32) (c_ruleFrom : Nat → Int32) (c_ruleTo : Nat → Int32) (c_code : Nat → Int32) (c_eWhat : Nat → Int32) (c_eSign : Nat → Int32) (m_bank : Int32) (m_rb : Int32) (m_codes : Int32) (m_within : Int32) (m_piled : Int32) (m_unitsInRule : Int32) (m_askStrand : Int32) (m_askTied : Int32) (m_thoughtClaim : Int32) (m_thoughtNeed : Int32) (m_thoughtAll : Int32) (c_roundOf : Nat → Int32) (m_acts : Int32) (m_undone : Int32) (m_laid : Int32) (m_firstMove : Int32) (m_seens : Int32) (m_time : Int32) (m_waysNow : Int32) (m_fitting : Int32) (f : Nat → va_E) (hT : TYm ad cy fr0 c_text m_taped m_size m_faultKind m_faultPlace m_at m_end m_token m_number m_name c_points c_strands c_units c_told c_ruleFrom c_ruleTo c_code c_eWhat c_eSign m_bank m_rb m_codes m_within m_piled m_unitsInRule m_askStrand m_askTied m_thoughtClaim m_thoughtNeed m_thoughtAll c_roundOf m_acts m_undone m_laid m_firstMove m_seens m_time m_waysNow m_fitting f) (p2 : Int32) (p3 : Int32) (hp3 : 0 ≤ p3.toInt ∧ p3.toInt ≤ 1) (hh0 : m_acts.toInt + m_undone.toInt ≤ 40 ∧ 0 ≤ m_undone.toInt) (hh1 : p3.toInt = 0 ∨ (0 ≤ p2.toInt ∧ p2.toInt ≤ 11)) (hCV : CVp c_told c_ruleFrom c_ruleTo c_code m_bank) (sz : Nat) : TtI l yX9_turned wsX9_turned 8 178 [.ref (ad 148), .int 0, .int p2, .int p3] B0 adK adV D cy ad f sz (fun (r : Int32) (g : Nat → va_E) => (-1 ≤ r.toInt ∧ r.toInt ≤ 32) ∧ (∃ (m_askStrand' : Int32) (m_askTied' : Int32) (c_roundOf' : Nat → Int32) (m_acts' : Int32) (m_undone' : Int32), TYm ad cy fr0 c_text m_taped m_size m_faultKind m_faultPlace m_at m_end m_token m_number m_name c_points c_strands c_units c_told c_ruleFrom c_ruleTo c_code c_eWhat c_eSign m_bank m_rb m_codes m_within m_piled m_unitsInRule m_askStrand' m_askTied' m_thoughtClaim m_thoughtNeed m_thoughtAll c_roundOf' m_acts' m_undone' m_laid m_firstMove m_seens m_time m_waysNow m_fitting g ∧ (m_acts'.toInt + m_undone'.toInt ≤ 40 ∧ 0 ≤ m_undone'.toInt))) := by
  refine TtI.of (cc := cX9_turned) (maxL := 4) (ty := .int) (own := RX9) (by decide) rfl (Nat.le_of_ble_eq_true rfl) rfl ?_
  intro p e s m below meth c A ls hx hb hr hml hts hown hlk hK hE hP hD hS hA hAB hl
  have hl : lv_has ls 4 [(0, .ref (ad 148)), (1, .int 0), (2, .int p2), (3, .int p3)] := hl
  refine st0 (fun H locs hP hS => ?_) hP hS
  refine lv_iload_n hx hb dX9_turned_0 rfl (lv_at hl 3 rfl) ?_
  have ttl_0 := tl_0
  refine lv_if_ne (tgt := 6) hx hb dX9_turned_1 (by decide) (fun c1 => ?_) (fun c1 => ?_)
  · have kc1 := c_ne c1
    refine lv_aload_n hx hb dX9_turned_6 rfl (lv_at hl 0 rfl) ?_
    obtain ⟨e17, h2, h3, h4, h5, h6, h7, h8, h9, h10, h11, h12, h13, h14, h15, h16⟩ := (show okX9 ad m_taped m_size m_faultKind m_faultPlace m_at m_end m_token m_number m_name m_bank m_rb m_codes m_within m_piled m_unitsInRule m_askStrand m_askTied m_thoughtClaim m_thoughtNeed m_thoughtAll m_acts m_undone m_laid m_firstMove m_seens m_time m_waysNow m_fitting 148 (f 148) from hT.1 148 (by decide))
    refine tVV (As := []) (rest := []) (i := 148) ⟨hx, hb, hml, hown, hts⟩ hK hE hP hD hS hA hAB (s_X9_keepAct_0 l B0 adK adV D cy ad fr0 c_text m_taped m_size m_faultKind m_faultPlace m_at m_end m_token m_number m_name c_points c_strands c_units c_told c_ruleFrom c_ruleTo c_code c_eWhat c_eSign m_bank m_rb m_codes m_within m_piled m_unitsInRule m_askStrand m_askTied m_thoughtClaim m_thoughtNeed m_thoughtAll c_roundOf m_acts m_undone m_laid m_firstMove m_seens m_time m_waysNow m_fitting f hT _) (cwV 0 hts gX9_turned_X9_keepAct rfl rfl rfl (by decide +kernel) ⟨Nat.le_of_ble_eq_true rfl, Nat.le_of_ble_eq_true rfl⟩) (by decide) 9 e17 rfl rfl hl.1 rfl (Nat.le_of_ble_eq_true rfl) dX9_turned_7 ⟨Nat.le_of_ble_eq_true rfl, Nat.le_of_ble_eq_true rfl⟩ (fun f H locs hw hP hD hS => ?_)
    obtain ⟨hrs, x18, x19, hT, h20, h21, h22⟩ := hw
    have ha23 : 0 ≤ p2.toInt ∧ p2.toInt ≤ 11 := by omega
    refine lv_aload_n hx hb dX9_turned_10 rfl (lv_at hl 0 rfl) ?_
    obtain ⟨e39, h24, h25, h26, h27, h28, h29, h30, h31, h32, h33, h34, h35, h36, h37, h38⟩ := (show okX9 ad m_taped m_size m_faultKind m_faultPlace m_at m_end m_token m_number m_name m_bank m_rb m_codes m_within m_piled m_unitsInRule m_askStrand m_askTied m_thoughtClaim m_thoughtNeed m_thoughtAll x18 x19 m_laid m_firstMove m_seens m_time m_waysNow m_fitting 148 (f 148) from hT.1 148 (by decide))
    refine va_get (D := D) (cl := vwCl) (ci := 9) (v := .ref (ad 169)) (C := RX9) (T := TX9) (N := 64) hx hb hts in_X9_turned_X9 hown hK hP 148 (wl_at (by decide) e39) rfl 37 (by decide) (hts (.fieldLink RX9 76 "EightReasonsModel" "all" "[I") (List.mem_of_getElem? (i := 1) rfl)) (fun _ h9 => h9) rfl dX9_turned_11 ?_
    refine lv_iload_n hx hb dX9_turned_14 rfl (lv_at hl 1 rfl) ?_
    refine lv_dup2_11 hx hb dX9_turned_15 rfl rfl ?_
    obtain ⟨g42, e40, h41⟩ := (show okIr cy 16 (0) (4095) 16 1 (f 169) from hT.1 169 (by decide))
    refine va_iald hx hb hK hP 169 0 (wl_at (by decide) e40) rfl (vin (by decide)) dX9_turned_16 ?_
    refine lv_topi (fun x43 ex43 => ?_)
    refine lv_iconst (v := 1) hx hb dX9_turned_17 (by decide) ?_
    refine lv_iload_n hx hb dX9_turned_18 rfl (lv_at hl 2 rfl) ?_
    refine lv_ishl hx hb dX9_turned_19 ?_
    refine lv_topi (fun x44 ex44 => ?_)
    have hx44 := r_shl (K := 11) (M := 2048) ex44 (by decide) (by decide) (by omega) (by omega)
    refine lv_ixor hx hb dX9_turned_20 ?_
    refine lv_topi (fun x45 ex45 => ?_)
    refine va_iast hx hb hK hP hD hS 169 0 (wl_at (by decide) e40) rfl (vin (by decide)) dX9_turned_21 (fun H locs hP hD hS => ?_)
    obtain ⟨f, hT, hP, hD, e46, hj47⟩ := stU (by decide) (TYm.up hT (by decide) (show OKm ad cy c_text m_taped m_size m_faultKind m_faultPlace m_at m_end m_token m_number m_name c_points c_strands c_units c_told c_ruleFrom c_ruleTo c_code c_eWhat c_eSign m_bank m_rb m_codes m_within m_piled m_unitsInRule m_askStrand m_askTied m_thoughtClaim m_thoughtNeed m_thoughtAll c_roundOf x18 x19 m_laid m_firstMove m_seens m_time m_waysNow m_fitting 169 _ from (show okIr cy 16 (0) (4095) 16 1 _ from ⟨_, rfl, upd_r h41 (fun q => absurd q (by decide))⟩))) hP hD
    have e48 := (hj47 148 (by decide)).trans e39
    refine lv_aload_n hx hb dX9_turned_22 rfl (lv_at hl 0 rfl) ?_
    refine tVI (As := []) (rest := []) (i := 148) ⟨hx, hb, hml, hown, hts⟩ hK hE hP hD hS hA hAB (s_X9_claimsNow_0 l B0 adK adV D cy ad fr0 c_text m_taped m_size m_faultKind m_faultPlace m_at m_end m_token m_number m_name c_points c_strands c_units c_told c_ruleFrom c_ruleTo c_code c_eWhat c_eSign m_bank m_rb m_codes m_within m_piled m_unitsInRule m_askStrand m_askTied m_thoughtClaim m_thoughtNeed m_thoughtAll c_roundOf x18 x19 m_laid m_firstMove m_seens m_time m_waysNow m_fitting f hT hCV _) (cwV 0 hts gX9_turned_X9_claimsNow rfl rfl rfl (by decide +kernel) ⟨Nat.le_of_ble_eq_true rfl, Nat.le_of_ble_eq_true rfl⟩) (by decide) 9 e48 rfl rfl hl.1 rfl (Nat.le_of_ble_eq_true rfl) dX9_turned_23 ⟨Nat.le_of_ble_eq_true rfl, Nat.le_of_ble_eq_true rfl⟩ (fun r f H locs hw hP hD hS => ?_)
    obtain ⟨hrs, x49, x50, y51, hT, h52⟩ := hw
    obtain ⟨x53, rfl⟩ : ∃ q, q = r := ⟨_, rfl⟩
    have h54 := hrs
    exact tI hx hb hr hlk rfl hP hS ⟨(by omega), ⟨x49, x50, y51, x18, x19, hT, by omega⟩⟩ dX9_turned_26
  · have kc1 := c_eq c1
    refine lv_iconst (v := (-1)) hx hb dX9_turned_4 (by decide) ?_
    have ttl_m1 := tl_m1
    exact tI hx hb hr hlk rfl hP hS ⟨(by omega), ⟨m_askStrand, m_askTied, c_roundOf, m_acts, m_undone, hT, by omega⟩⟩ dX9_turned_5
set_option maxHeartbeats 4000000 in
set_option maxRecDepth 100000 in
theorem s_X9_strike_0 (l : Launch) (B0 : Nat) (adK adV : Nat → Nat) (D : va_G) (cy : Nat → ClassId) (ad : Nat → Nat) (fr0 : Nat → va_E) (c_text : Nat → Int32) (m_taped : Int32) (m_size : Int32) (m_faultKind : Int32) (m_faultPlace : Int32) (m_at : Int32) (m_end : Int32) (m_token : Int32) (m_number : Int32) (m_name : Int64) (c_points : Nat → Int32) (c_strands : Nat → Int32) (c_units : Nat → Int32) (c_told : Nat → Int32) (c_ruleFrom : Nat → Int32) (c_ruleTo : Nat → Int32) (c_code : Nat → Int32) (c_eWhat : Nat → Int32) (c_eSign : Nat → Int32) (m_bank : Int32) (m_rb : Int32) (m_codes : Int32) (m_within : Int32) (m_piled : Int32) (m_unitsInRule : Int32) (m_askStrand : Int32) (m_askTied : Int32) (m_thoughtClaim : Int32) (m_thoughtNeed : Int32) (m_thoughtAll : Int32) (c_roundOf : Nat → Int32) (m_acts : Int32) (m_undone : Int32) (m_laid : Int32) (m_firstMove : Int32) (m_seens : Int32) (m_time : Int32) (m_waysNow : Int32) (m_fitting : Int32) (f : Nat → va_E) (hT : TYm ad cy fr0 c_text m_taped m_size m_faultKind m_faultPlace m_at m_end m_token m_number m_name c_points c_strands c_units c_told c_ruleFrom c_ruleTo c_code c_eWhat c_eSign m_bank m_rb m_codes m_within m_piled m_unitsInRule m_askStrand m_askTied m_thoughtClaim m_thoughtNeed m_thoughtAll c_roundOf m_acts m_undone m_laid m_firstMove m_seens m_time m_waysNow m_fitting f) (p1 : Int32) (hh0 : m_acts.toInt + m_undone.toInt ≤ 40 ∧ 0 ≤ m_undone.toInt) (hCV : CVp c_told c_ruleFrom c_ruleTo c_code m_bank) (sz : Nat) : TtI l yX9_strike wsX9_strike 9 201 [.ref (ad 148), .int p1] B0 adK adV D cy ad f sz (fun (r : Int32) (g : Nat → va_E) => (-1 ≤ r.toInt ∧ r.toInt ≤ 32) ∧ (∃ (m_askStrand' : Int32) (m_askTied' : Int32) (c_roundOf' : Nat → Int32) (m_acts' : Int32) (m_undone' : Int32), TYm ad cy fr0 c_text m_taped m_size m_faultKind m_faultPlace m_at m_end m_token m_number m_name c_points c_strands c_units c_told c_ruleFrom c_ruleTo c_code c_eWhat c_eSign m_bank m_rb m_codes m_within m_piled m_unitsInRule m_askStrand' m_askTied' m_thoughtClaim m_thoughtNeed m_thoughtAll c_roundOf' m_acts' m_undone' m_laid m_firstMove m_seens m_time m_waysNow m_fitting g ∧ (m_acts'.toInt + m_undone'.toInt ≤ 40 ∧ 0 ≤ m_undone'.toInt))) := by
  refine TtI.of (cc := cX9_strike) (maxL := 2) (ty := .int) (own := RX9) (by decide) rfl (Nat.le_of_ble_eq_true rfl) rfl ?_
  intro p e s m below meth c A ls hx hb hr hml hts hown hlk hK hE hP hD hS hA hAB hl
  have hl : lv_has ls 2 [(0, .ref (ad 148)), (1, .int p1)] := hl
  refine st0 (fun H locs hP hS => ?_) hP hS
  refine lv_aload_n hx hb dX9_strike_0 rfl (lv_at hl 0 rfl) ?_
  refine lv_iconst (v := 0) hx hb dX9_strike_1 (by decide) ?_
  refine lv_iload_n hx hb dX9_strike_2 rfl (lv_at hl 1 rfl) ?_
  refine lv_aload_n hx hb dX9_strike_3 rfl (lv_at hl 0 rfl) ?_
  refine lv_iload_n hx hb dX9_strike_4 rfl (lv_at hl 1 rfl) ?_
  obtain ⟨e16, h1, h2, h3, h4, h5, h6, h7, h8, h9, h10, h11, h12, h13, h14, h15⟩ := (show okX9 ad m_taped m_size m_faultKind m_faultPlace m_at m_end m_token m_number m_name m_bank m_rb m_codes m_within m_piled m_unitsInRule m_askStrand m_askTied m_thoughtClaim m_thoughtNeed m_thoughtAll m_acts m_undone m_laid m_firstMove m_seens m_time m_waysNow m_fitting 148 (f 148) from hT.1 148 (by decide))
  refine tVI (As := [.int p1]) (rest := [.int p1, .int 0, .ref (ad 148)]) (i := 148) ⟨hx, hb, hml, hown, hts⟩ hK hE hP hD hS hA hAB (s_X9_isFact_0 l B0 adK adV D cy ad fr0 c_text m_taped m_size m_faultKind m_faultPlace m_at m_end m_token m_number m_name c_points c_strands c_units c_told c_ruleFrom c_ruleTo c_code c_eWhat c_eSign m_bank m_rb m_codes m_within m_piled m_unitsInRule m_askStrand m_askTied m_thoughtClaim m_thoughtNeed m_thoughtAll c_roundOf m_acts m_undone m_laid m_firstMove m_seens m_time m_waysNow m_fitting f hT p1 _) (cwV 1 hts gX9_strike_X9_isFact rfl rfl rfl (by decide +kernel) ⟨Nat.le_of_ble_eq_true rfl, Nat.le_of_ble_eq_true rfl⟩) (by decide) 9 e16 rfl rfl hl.1 rfl (Nat.le_of_ble_eq_true rfl) dX9_strike_5 ⟨Nat.le_of_ble_eq_true rfl, Nat.le_of_ble_eq_true rfl⟩ (fun r g H locs hw hP hD hS => ?_)
  obtain ⟨hrs, rfl⟩ := hw
  obtain ⟨x17, rfl⟩ : ∃ q, q = r := ⟨_, rfl⟩
  rcases hrs with ⟨rfl, h18, h19⟩ | rfl
  · refine lv_if_eq (tgt := 28) hx hb dX9_strike_8 (by decide) (fun c => absurd c (by decide)) (fun _ => ?_)
    refine lv_aload_n hx hb dX9_strike_11 rfl (lv_at hl 0 rfl) ?_
    refine va_get (D := D) (cl := vwCl) (ci := 9) (v := .ref (ad 169)) (C := RX9) (T := TX9) (N := 64) hx hb hts in_X9_strike_X9 hown hK hP 148 (wl_at (by decide) e16) rfl 37 (by decide) (hts (.fieldLink RX9 76 "EightReasonsModel" "all" "[I") (List.mem_of_getElem? (i := 1) rfl)) (fun _ h9 => h9) rfl dX9_strike_12 ?_
    refine lv_iconst (v := 0) hx hb dX9_strike_15 (by decide) ?_
    obtain ⟨g22, e20, h21⟩ := (show okIr cy 16 (0) (4095) 16 1 (f 169) from hT.1 169 (by decide))
    have ttl_0 := tl_0
    refine va_iald hx hb hK hP 169 0 (wl_at (by decide) e20) rfl (vin (by decide)) dX9_strike_16 ?_
    refine lv_topi (fun x23 ex23 => ?_)
    refine lv_iload_n hx hb dX9_strike_17 rfl (lv_at hl 1 rfl) ?_
    refine tSI (As := [.int x23, .int p1]) (rest := [.int p1, .int 0, .ref (ad 148)]) ⟨hx, hb, hml, hown, hts⟩ hK hE hP hD hS hA hAB (s_X9_bit_0 l B0 adK adV D cy ad f x23 p1 (by omega) _) (va_cwS 2 hts gX9_strike_X9_bit rfl rfl rfl (by decide +kernel) ⟨Nat.le_of_ble_eq_true rfl, Nat.le_of_ble_eq_true rfl⟩) rfl hl.1 rfl (Nat.le_of_ble_eq_true rfl) dX9_strike_18 ⟨Nat.le_of_ble_eq_true rfl, Nat.le_of_ble_eq_true rfl⟩ (fun r g H locs hw hP hD hS => ?_)
    obtain ⟨hrs, rfl⟩ := hw
    obtain ⟨x24, rfl⟩ : ∃ q, q = r := ⟨_, rfl⟩
    rcases hrs with ⟨rfl, h25⟩ | ⟨rfl, h26⟩
    · refine lv_if_ne (tgt := 28) hx hb dX9_strike_21 (by decide) (fun _ => ?_) (fun c => absurd c (by decide))
      refine lv_iconst (v := 0) hx hb dX9_strike_28 (by decide) ?_
      refine tVI (As := [.int 0, .int p1, .int 0]) (rest := []) (i := 148) ⟨hx, hb, hml, hown, hts⟩ hK hE hP hD hS hA hAB (s_X9_turned_1 l B0 adK adV D cy ad fr0 c_text m_taped m_size m_faultKind m_faultPlace m_at m_end m_token m_number m_name c_points c_strands c_units c_told c_ruleFrom c_ruleTo c_code c_eWhat c_eSign m_bank m_rb m_codes m_within m_piled m_unitsInRule m_askStrand m_askTied m_thoughtClaim m_thoughtNeed m_thoughtAll c_roundOf m_acts m_undone m_laid m_firstMove m_seens m_time m_waysNow m_fitting f hT p1 (0 : Int32) (by omega) (by omega) (by omega) hCV _) (cwV 3 hts gX9_strike_X9_turned rfl rfl rfl (by decide +kernel) ⟨Nat.le_of_ble_eq_true rfl, Nat.le_of_ble_eq_true rfl⟩) (by decide) 9 e16 rfl rfl hl.1 rfl (Nat.le_of_ble_eq_true rfl) dX9_strike_29 ⟨Nat.le_of_ble_eq_true rfl, Nat.le_of_ble_eq_true rfl⟩ (fun r f H locs hw hP hD hS => ?_)
      obtain ⟨hrs, x27, x28, y29, x30, x31, hT, h32⟩ := hw
      obtain ⟨x33, rfl⟩ : ∃ q, q = r := ⟨_, rfl⟩
      have h34 := hrs
      exact tI hx hb hr hlk rfl hP hS ⟨(by omega), ⟨x27, x28, y29, x30, x31, hT, by omega⟩⟩ dX9_strike_32
    · refine lv_if_ne (tgt := 28) hx hb dX9_strike_21 (by decide) (fun c => absurd (by decide) c) (fun _ => ?_)
      refine lv_iconst (v := 1) hx hb dX9_strike_24 (by decide) ?_
      refine lv_goto (tgt := 29) hx hb dX9_strike_25 (by decide) ?_
      have ttl_1 := tl_1
      refine tVI (As := [.int 0, .int p1, .int 1]) (rest := []) (i := 148) ⟨hx, hb, hml, hown, hts⟩ hK hE hP hD hS hA hAB (s_X9_turned_1 l B0 adK adV D cy ad fr0 c_text m_taped m_size m_faultKind m_faultPlace m_at m_end m_token m_number m_name c_points c_strands c_units c_told c_ruleFrom c_ruleTo c_code c_eWhat c_eSign m_bank m_rb m_codes m_within m_piled m_unitsInRule m_askStrand m_askTied m_thoughtClaim m_thoughtNeed m_thoughtAll c_roundOf m_acts m_undone m_laid m_firstMove m_seens m_time m_waysNow m_fitting f hT p1 (1 : Int32) (by omega) (by omega) (by omega) hCV _) (cwV 3 hts gX9_strike_X9_turned rfl rfl rfl (by decide +kernel) ⟨Nat.le_of_ble_eq_true rfl, Nat.le_of_ble_eq_true rfl⟩) (by decide) 9 e16 rfl rfl hl.1 rfl (Nat.le_of_ble_eq_true rfl) dX9_strike_29 ⟨Nat.le_of_ble_eq_true rfl, Nat.le_of_ble_eq_true rfl⟩ (fun r f H locs hw hP hD hS => ?_)
      obtain ⟨hrs, x35, x36, y37, x38, x39, hT, h40⟩ := hw
      obtain ⟨x41, rfl⟩ : ∃ q, q = r := ⟨_, rfl⟩
      have h42 := hrs
      exact tI hx hb hr hlk rfl hP hS ⟨(by omega), ⟨x35, x36, y37, x38, x39, hT, by omega⟩⟩ dX9_strike_32
  · refine lv_if_eq (tgt := 28) hx hb dX9_strike_8 (by decide) (fun _ => ?_) (fun c => absurd (by decide) c)
    refine lv_iconst (v := 0) hx hb dX9_strike_28 (by decide) ?_
    have ttl_0 := tl_0
    refine tVI (As := [.int 0, .int p1, .int 0]) (rest := []) (i := 148) ⟨hx, hb, hml, hown, hts⟩ hK hE hP hD hS hA hAB (s_X9_turned_1 l B0 adK adV D cy ad fr0 c_text m_taped m_size m_faultKind m_faultPlace m_at m_end m_token m_number m_name c_points c_strands c_units c_told c_ruleFrom c_ruleTo c_code c_eWhat c_eSign m_bank m_rb m_codes m_within m_piled m_unitsInRule m_askStrand m_askTied m_thoughtClaim m_thoughtNeed m_thoughtAll c_roundOf m_acts m_undone m_laid m_firstMove m_seens m_time m_waysNow m_fitting f hT p1 (0 : Int32) (by omega) (by omega) (by omega) hCV _) (cwV 3 hts gX9_strike_X9_turned rfl rfl rfl (by decide +kernel) ⟨Nat.le_of_ble_eq_true rfl, Nat.le_of_ble_eq_true rfl⟩) (by decide) 9 e16 rfl rfl hl.1 rfl (Nat.le_of_ble_eq_true rfl) dX9_strike_29 ⟨Nat.le_of_ble_eq_true rfl, Nat.le_of_ble_eq_true rfl⟩ (fun r f H locs hw hP hD hS => ?_)
    obtain ⟨hrs, x43, x44, y45, x46, x47, hT, h48⟩ := hw
    obtain ⟨x49, rfl⟩ : ∃ q, q = r := ⟨_, rfl⟩
    have h50 := hrs
    exact tI hx hb hr hlk rfl hP hS ⟨(by omega), ⟨x43, x44, y45, x46, x47, hT, by omega⟩⟩ dX9_strike_32
set_option maxHeartbeats 4000000 in
set_option maxRecDepth 100000 in
theorem s_X9_prove_0 (l : Launch) (B0 : Nat) (adK adV : Nat → Nat) (D : va_G) (cy : Nat → ClassId) (ad : Nat → Nat) (fr0 : Nat → va_E) (c_text : Nat → Int32) (m_taped : Int32) (m_size : Int32) (m_faultKind : Int32) (m_faultPlace : Int32) (m_at : Int32) (m_end : Int32) (m_token : Int32) (m_number : Int32) (m_name : Int64) (c_points : Nat → Int32) (c_strands : Nat → Int32) (c_units : Nat → Int32) (c_told : Nat → Int32) (c_ruleFrom : Nat → Int32) (c_ruleTo : Nat → Int32) (c_code : Nat → Int32) (c_eWhat : Nat → Int32) (c_eSign : Nat → Int32) (m_bank : Int32) (m_rb : Int32) (m_codes : Int32) (m_within : Int32) (m_piled : Int32) (m_unitsInRule : Int32) (m_askStrand : Int32) (m_askTied : Int32) (m_thoughtClaim : Int32) (m_thoughtNeed : Int32) (m_thoughtAll : Int32) (c_roundOf : Nat → Int32) (m_acts : Int32) (m_undone : Int32) (m_laid : Int32) (m_firstMove : Int32) (m_seens : Int32) (m_time : Int32) (m_waysNow : Int32) (m_fitting : Int32) (f : Nat → va_E) (hT : TYm ad cy fr0 c_text m_taped m_size m_faultKind m_faultPlace m_at m_end m_token m_number m_name c_points c_strands c_units c_told c_ruleFrom c_ruleTo c_code c_eWhat c_eSign m_bank m_rb m_codes m_within m_piled m_unitsInRule m_askStrand m_askTied m_thoughtClaim m_thoughtNeed m_thoughtAll c_roundOf m_acts m_undone m_laid m_firstMove m_seens m_time m_waysNow m_fitting f) (p1 : Int32) (hh0 : m_acts.toInt + m_undone.toInt ≤ 40 ∧ 0 ≤ m_undone.toInt) (hCV : CVp c_told c_ruleFrom c_ruleTo c_code m_bank) (sz : Nat) : TtI l yX9_prove wsX9_prove 9 201 [.ref (ad 148), .int p1] B0 adK adV D cy ad f sz (fun (r : Int32) (g : Nat → va_E) => (-1 ≤ r.toInt ∧ r.toInt ≤ 32) ∧ (∃ (m_askStrand' : Int32) (m_askTied' : Int32) (c_roundOf' : Nat → Int32) (m_acts' : Int32) (m_undone' : Int32), TYm ad cy fr0 c_text m_taped m_size m_faultKind m_faultPlace m_at m_end m_token m_number m_name c_points c_strands c_units c_told c_ruleFrom c_ruleTo c_code c_eWhat c_eSign m_bank m_rb m_codes m_within m_piled m_unitsInRule m_askStrand' m_askTied' m_thoughtClaim m_thoughtNeed m_thoughtAll c_roundOf' m_acts' m_undone' m_laid m_firstMove m_seens m_time m_waysNow m_fitting g ∧ (m_acts'.toInt + m_undone'.toInt ≤ 40 ∧ 0 ≤ m_undone'.toInt))) := by
  refine TtI.of (cc := cX9_prove) (maxL := 2) (ty := .int) (own := RX9) (by decide) rfl (Nat.le_of_ble_eq_true rfl) rfl ?_
  intro p e s m below meth c A ls hx hb hr hml hts hown hlk hK hE hP hD hS hA hAB hl
  have hl : lv_has ls 2 [(0, .ref (ad 148)), (1, .int p1)] := hl
  refine st0 (fun H locs hP hS => ?_) hP hS
  refine lv_aload_n hx hb dX9_prove_0 rfl (lv_at hl 0 rfl) ?_
  refine lv_iconst (v := 0) hx hb dX9_prove_1 (by decide) ?_
  refine lv_iload_n hx hb dX9_prove_2 rfl (lv_at hl 1 rfl) ?_
  refine lv_aload_n hx hb dX9_prove_3 rfl (lv_at hl 0 rfl) ?_
  refine lv_iload_n hx hb dX9_prove_4 rfl (lv_at hl 1 rfl) ?_
  obtain ⟨e16, h1, h2, h3, h4, h5, h6, h7, h8, h9, h10, h11, h12, h13, h14, h15⟩ := (show okX9 ad m_taped m_size m_faultKind m_faultPlace m_at m_end m_token m_number m_name m_bank m_rb m_codes m_within m_piled m_unitsInRule m_askStrand m_askTied m_thoughtClaim m_thoughtNeed m_thoughtAll m_acts m_undone m_laid m_firstMove m_seens m_time m_waysNow m_fitting 148 (f 148) from hT.1 148 (by decide))
  refine tVI (As := [.int p1]) (rest := [.int p1, .int 0, .ref (ad 148)]) (i := 148) ⟨hx, hb, hml, hown, hts⟩ hK hE hP hD hS hA hAB (s_X9_isFact_0 l B0 adK adV D cy ad fr0 c_text m_taped m_size m_faultKind m_faultPlace m_at m_end m_token m_number m_name c_points c_strands c_units c_told c_ruleFrom c_ruleTo c_code c_eWhat c_eSign m_bank m_rb m_codes m_within m_piled m_unitsInRule m_askStrand m_askTied m_thoughtClaim m_thoughtNeed m_thoughtAll c_roundOf m_acts m_undone m_laid m_firstMove m_seens m_time m_waysNow m_fitting f hT p1 _) (cwV 1 hts gX9_prove_X9_isFact rfl rfl rfl (by decide +kernel) ⟨Nat.le_of_ble_eq_true rfl, Nat.le_of_ble_eq_true rfl⟩) (by decide) 9 e16 rfl rfl hl.1 rfl (Nat.le_of_ble_eq_true rfl) dX9_prove_5 ⟨Nat.le_of_ble_eq_true rfl, Nat.le_of_ble_eq_true rfl⟩ (fun r g H locs hw hP hD hS => ?_)
  obtain ⟨hrs, rfl⟩ := hw
  obtain ⟨x17, rfl⟩ : ∃ q, q = r := ⟨_, rfl⟩
  rcases hrs with ⟨rfl, h18, h19⟩ | rfl
  · refine lv_if_eq (tgt := 28) hx hb dX9_prove_8 (by decide) (fun c => absurd c (by decide)) (fun _ => ?_)
    refine lv_aload_n hx hb dX9_prove_11 rfl (lv_at hl 0 rfl) ?_
    refine va_get (D := D) (cl := vwCl) (ci := 9) (v := .ref (ad 169)) (C := RX9) (T := TX9) (N := 64) hx hb hts in_X9_prove_X9 hown hK hP 148 (wl_at (by decide) e16) rfl 37 (by decide) (hts (.fieldLink RX9 76 "EightReasonsModel" "all" "[I") (List.mem_of_getElem? (i := 1) rfl)) (fun _ h9 => h9) rfl dX9_prove_12 ?_
    refine lv_iconst (v := 0) hx hb dX9_prove_15 (by decide) ?_
    obtain ⟨g22, e20, h21⟩ := (show okIr cy 16 (0) (4095) 16 1 (f 169) from hT.1 169 (by decide))
    have ttl_0 := tl_0
    refine va_iald hx hb hK hP 169 0 (wl_at (by decide) e20) rfl (vin (by decide)) dX9_prove_16 ?_
    refine lv_topi (fun x23 ex23 => ?_)
    refine lv_iload_n hx hb dX9_prove_17 rfl (lv_at hl 1 rfl) ?_
    refine tSI (As := [.int x23, .int p1]) (rest := [.int p1, .int 0, .ref (ad 148)]) ⟨hx, hb, hml, hown, hts⟩ hK hE hP hD hS hA hAB (s_X9_bit_0 l B0 adK adV D cy ad f x23 p1 (by omega) _) (va_cwS 2 hts gX9_prove_X9_bit rfl rfl rfl (by decide +kernel) ⟨Nat.le_of_ble_eq_true rfl, Nat.le_of_ble_eq_true rfl⟩) rfl hl.1 rfl (Nat.le_of_ble_eq_true rfl) dX9_prove_18 ⟨Nat.le_of_ble_eq_true rfl, Nat.le_of_ble_eq_true rfl⟩ (fun r g H locs hw hP hD hS => ?_)
    obtain ⟨hrs, rfl⟩ := hw
    obtain ⟨x24, rfl⟩ : ∃ q, q = r := ⟨_, rfl⟩
    rcases hrs with ⟨rfl, h25⟩ | ⟨rfl, h26⟩
    · refine lv_if_eq (tgt := 28) hx hb dX9_prove_21 (by decide) (fun c => absurd c (by decide)) (fun _ => ?_)
      refine lv_iconst (v := 1) hx hb dX9_prove_24 (by decide) ?_
      refine lv_goto (tgt := 29) hx hb dX9_prove_25 (by decide) ?_
      have ttl_1 := tl_1
      refine tVI (As := [.int 0, .int p1, .int 1]) (rest := []) (i := 148) ⟨hx, hb, hml, hown, hts⟩ hK hE hP hD hS hA hAB (s_X9_turned_1 l B0 adK adV D cy ad fr0 c_text m_taped m_size m_faultKind m_faultPlace m_at m_end m_token m_number m_name c_points c_strands c_units c_told c_ruleFrom c_ruleTo c_code c_eWhat c_eSign m_bank m_rb m_codes m_within m_piled m_unitsInRule m_askStrand m_askTied m_thoughtClaim m_thoughtNeed m_thoughtAll c_roundOf m_acts m_undone m_laid m_firstMove m_seens m_time m_waysNow m_fitting f hT p1 (1 : Int32) (by omega) (by omega) (by omega) hCV _) (cwV 3 hts gX9_prove_X9_turned rfl rfl rfl (by decide +kernel) ⟨Nat.le_of_ble_eq_true rfl, Nat.le_of_ble_eq_true rfl⟩) (by decide) 9 e16 rfl rfl hl.1 rfl (Nat.le_of_ble_eq_true rfl) dX9_prove_29 ⟨Nat.le_of_ble_eq_true rfl, Nat.le_of_ble_eq_true rfl⟩ (fun r f H locs hw hP hD hS => ?_)
      obtain ⟨hrs, x27, x28, y29, x30, x31, hT, h32⟩ := hw
      obtain ⟨x33, rfl⟩ : ∃ q, q = r := ⟨_, rfl⟩
      have h34 := hrs
      exact tI hx hb hr hlk rfl hP hS ⟨(by omega), ⟨x27, x28, y29, x30, x31, hT, by omega⟩⟩ dX9_prove_32
    · refine lv_if_eq (tgt := 28) hx hb dX9_prove_21 (by decide) (fun _ => ?_) (fun c => absurd (by decide) c)
      refine lv_iconst (v := 0) hx hb dX9_prove_28 (by decide) ?_
      refine tVI (As := [.int 0, .int p1, .int 0]) (rest := []) (i := 148) ⟨hx, hb, hml, hown, hts⟩ hK hE hP hD hS hA hAB (s_X9_turned_1 l B0 adK adV D cy ad fr0 c_text m_taped m_size m_faultKind m_faultPlace m_at m_end m_token m_number m_name c_points c_strands c_units c_told c_ruleFrom c_ruleTo c_code c_eWhat c_eSign m_bank m_rb m_codes m_within m_piled m_unitsInRule m_askStrand m_askTied m_thoughtClaim m_thoughtNeed m_thoughtAll c_roundOf m_acts m_undone m_laid m_firstMove m_seens m_time m_waysNow m_fitting f hT p1 (0 : Int32) (by omega) (by omega) (by omega) hCV _) (cwV 3 hts gX9_prove_X9_turned rfl rfl rfl (by decide +kernel) ⟨Nat.le_of_ble_eq_true rfl, Nat.le_of_ble_eq_true rfl⟩) (by decide) 9 e16 rfl rfl hl.1 rfl (Nat.le_of_ble_eq_true rfl) dX9_prove_29 ⟨Nat.le_of_ble_eq_true rfl, Nat.le_of_ble_eq_true rfl⟩ (fun r f H locs hw hP hD hS => ?_)
      obtain ⟨hrs, x35, x36, y37, x38, x39, hT, h40⟩ := hw
      obtain ⟨x41, rfl⟩ : ∃ q, q = r := ⟨_, rfl⟩
      have h42 := hrs
      exact tI hx hb hr hlk rfl hP hS ⟨(by omega), ⟨x35, x36, y37, x38, x39, hT, by omega⟩⟩ dX9_prove_32
  · refine lv_if_eq (tgt := 28) hx hb dX9_prove_8 (by decide) (fun _ => ?_) (fun c => absurd (by decide) c)
    refine lv_iconst (v := 0) hx hb dX9_prove_28 (by decide) ?_
    have ttl_0 := tl_0
    refine tVI (As := [.int 0, .int p1, .int 0]) (rest := []) (i := 148) ⟨hx, hb, hml, hown, hts⟩ hK hE hP hD hS hA hAB (s_X9_turned_1 l B0 adK adV D cy ad fr0 c_text m_taped m_size m_faultKind m_faultPlace m_at m_end m_token m_number m_name c_points c_strands c_units c_told c_ruleFrom c_ruleTo c_code c_eWhat c_eSign m_bank m_rb m_codes m_within m_piled m_unitsInRule m_askStrand m_askTied m_thoughtClaim m_thoughtNeed m_thoughtAll c_roundOf m_acts m_undone m_laid m_firstMove m_seens m_time m_waysNow m_fitting f hT p1 (0 : Int32) (by omega) (by omega) (by omega) hCV _) (cwV 3 hts gX9_prove_X9_turned rfl rfl rfl (by decide +kernel) ⟨Nat.le_of_ble_eq_true rfl, Nat.le_of_ble_eq_true rfl⟩) (by decide) 9 e16 rfl rfl hl.1 rfl (Nat.le_of_ble_eq_true rfl) dX9_prove_29 ⟨Nat.le_of_ble_eq_true rfl, Nat.le_of_ble_eq_true rfl⟩ (fun r f H locs hw hP hD hS => ?_)
    obtain ⟨hrs, x43, x44, y45, x46, x47, hT, h48⟩ := hw
    obtain ⟨x49, rfl⟩ : ∃ q, q = r := ⟨_, rfl⟩
    have h50 := hrs
    exact tI hx hb hr hlk rfl hP hS ⟨(by omega), ⟨x43, x44, y45, x46, x47, hT, by omega⟩⟩ dX9_prove_32
set_option maxHeartbeats 4000000 in
set_option maxRecDepth 100000 in
theorem s_X9_goDay_0 (l : Launch) (B0 : Nat) (adK adV : Nat → Nat) (D : va_G) (cy : Nat → ClassId) (ad : Nat → Nat) (fr0 : Nat → va_E) (c_text : Nat → Int32) (m_taped : Int32) (m_size : Int32) (m_faultKind : Int32) (m_faultPlace : Int32) (m_at : Int32) (m_end : Int32) (m_token : Int32) (m_number : Int32) (m_name : Int64) (c_points : Nat → Int32) (c_strands : Nat → Int32) (c_units : Nat → Int32) (c_told : Nat → Int32) (c_ruleFrom : Nat → Int32) (c_ruleTo : Nat → Int32) (c_code : Nat → Int32) (c_eWhat : Nat → Int32) (c_eSign : Nat → Int32) (m_bank : Int32) (m_rb : Int32) (m_codes : Int32) (m_within : Int32) (m_piled : Int32) (m_unitsInRule : Int32) (m_askStrand : Int32) (m_askTied : Int32) (m_thoughtClaim : Int32) (m_thoughtNeed : Int32) (m_thoughtAll : Int32) (c_roundOf : Nat → Int32) (m_acts : Int32) (m_undone : Int32) (m_laid : Int32) (m_firstMove : Int32) (m_seens : Int32) (m_time : Int32) (m_waysNow : Int32) (m_fitting : Int32) (f : Nat → va_E) (hT : TYm ad cy fr0 c_text m_taped m_size m_faultKind m_faultPlace m_at m_end m_token m_number m_name c_points c_strands c_units c_told c_ruleFrom c_ruleTo c_code c_eWhat c_eSign m_bank m_rb m_codes m_within m_piled m_unitsInRule m_askStrand m_askTied m_thoughtClaim m_thoughtNeed m_thoughtAll c_roundOf m_acts m_undone m_laid m_firstMove m_seens m_time m_waysNow m_fitting f) (sz : Nat) : TtI l yX9_goDay wsX9_goDay 1 21 [.ref (ad 148)] B0 adK adV D cy ad f sz (fun (r : Int32) (g : Nat → va_E) => (0 ≤ r.toInt ∧ r.toInt ≤ 4095) ∧ (TYm ad cy fr0 c_text m_taped m_size m_faultKind m_faultPlace m_at m_end m_token m_number m_name c_points c_strands c_units c_told c_ruleFrom c_ruleTo c_code c_eWhat c_eSign m_bank m_rb m_codes m_within m_piled m_unitsInRule m_askStrand m_askTied m_thoughtClaim m_thoughtNeed m_thoughtAll c_roundOf m_acts m_undone m_laid m_firstMove m_seens m_time m_waysNow m_fitting g)) := by
  refine TtI.of (cc := cX9_goDay) (maxL := 3) (ty := .int) (own := RX9) (by decide) rfl (Nat.le_of_ble_eq_true rfl) rfl ?_
  intro p e s m below meth c A ls hx hb hr hml hts hown hlk hK hE hP hD hS hA hAB hl
  have hl : lv_has ls 3 [(0, .ref (ad 148))] := hl
  refine st0 (fun H locs hP hS => ?_) hP hS
  have j4 : ∀ (N : Nat) (f : Nat → va_E) (H : Heap) (locs : List Loc) (ls : Array Slot) (v4_l2 : Int32) (v4_l1 : Int32), (13 - v4_l2.toInt ≤ (N : Int)) → (0 ≤ v4_l2.toInt ∧ v4_l2.toInt ≤ 12) → (0 ≤ v4_l1.toInt ∧ v4_l1.toInt ≤ 4095) → (TYm ad cy fr0 c_text m_taped m_size m_faultKind m_faultPlace m_at m_end m_token m_number m_name c_points c_strands c_units c_told c_ruleFrom c_ruleTo c_code c_eWhat c_eSign m_bank m_rb m_codes m_within m_piled m_unitsInRule m_askStrand m_askTied m_thoughtClaim m_thoughtNeed m_thoughtAll c_roundOf m_acts m_undone m_laid m_firstMove m_seens m_time m_waysNow m_fitting f) → (va_P D vwCl (wl ad f) H) → (va_D A (wl ad f)) → (va_S A s.heap H locs) → (lv_has ls 3 [(2, .int v4_l2), (1, .int v4_l1), (0, .ref (ad 148))]) → W p l e (rmO 1 21 0 0) s m ([.ref (ad 148)] : List Value).toArray below meth c H locs 0 0 (MQ below (va_Qi (fun (r : Int32) (g : Nat → va_E) => (0 ≤ r.toInt ∧ r.toInt ≤ 4095) ∧ (TYm ad cy fr0 c_text m_taped m_size m_faultKind m_faultPlace m_at m_end m_token m_number m_name c_points c_strands c_units c_told c_ruleFrom c_ruleTo c_code c_eWhat c_eSign m_bank m_rb m_codes m_within m_piled m_unitsInRule m_askStrand m_askTied m_thoughtClaim m_thoughtNeed m_thoughtAll c_roundOf m_acts m_undone m_laid m_firstMove m_seens m_time m_waysNow m_fitting g)) (fun g t => PstT D ad g t) A) ([.ref (ad 148)] : List Value).toArray s 0 0 A) (F0 m 4 ls []) := by
    intro N
    induction N with
    | zero => intro f H locs ls v4_l2 v4_l1 hN hv4_l2 hv4_l1 hT hP hD hS hl; exact absurd hN (by omega)
    | succ N ih4 =>
      intro f H locs ls v4_l2 v4_l1 hN hv4_l2 hv4_l1 hT hP hD hS hl
      have j107 : ∀ (f : Nat → va_E) (H : Heap) (locs : List Loc) (ls : Array Slot) (v107_l1 : Int32), (0 ≤ v107_l1.toInt ∧ v107_l1.toInt ≤ 4095) → (0 ≤ v4_l2.toInt ∧ v4_l2.toInt ≤ 11) → (TYm ad cy fr0 c_text m_taped m_size m_faultKind m_faultPlace m_at m_end m_token m_number m_name c_points c_strands c_units c_told c_ruleFrom c_ruleTo c_code c_eWhat c_eSign m_bank m_rb m_codes m_within m_piled m_unitsInRule m_askStrand m_askTied m_thoughtClaim m_thoughtNeed m_thoughtAll c_roundOf m_acts m_undone m_laid m_firstMove m_seens m_time m_waysNow m_fitting f) → (va_P D vwCl (wl ad f) H) → (va_D A (wl ad f)) → (va_S A s.heap H locs) → (lv_has ls 3 [(1, .int v107_l1), (2, .int v4_l2), (0, .ref (ad 148))]) → W p l e (rmO 1 21 0 0) s m ([.ref (ad 148)] : List Value).toArray below meth c H locs 0 0 (MQ below (va_Qi (fun (r : Int32) (g : Nat → va_E) => (0 ≤ r.toInt ∧ r.toInt ≤ 4095) ∧ (TYm ad cy fr0 c_text m_taped m_size m_faultKind m_faultPlace m_at m_end m_token m_number m_name c_points c_strands c_units c_told c_ruleFrom c_ruleTo c_code c_eWhat c_eSign m_bank m_rb m_codes m_within m_piled m_unitsInRule m_askStrand m_askTied m_thoughtClaim m_thoughtNeed m_thoughtAll c_roundOf m_acts m_undone m_laid m_firstMove m_seens m_time m_waysNow m_fitting g)) (fun g t => PstT D ad g t) A) ([.ref (ad 148)] : List Value).toArray s 0 0 A) (F0 m 107 ls []) := by
        intro f H locs ls v107_l1 hv107_l1 hv107_l2 hT hP hD hS hl
        obtain ⟨x1, ex1⟩ : ∃ q : Int32, q = v4_l2 + Int32.ofInt (1) := ⟨_, rfl⟩
        refine lv_iinc (v := x1) (lv' := [(2, .int x1), (1, .int v107_l1), (0, .ref (ad 148))]) hx hb dX9_goDay_107 hl (k := 1) rfl ex1.symm (by decide) rfl (fun ls hl => ?_)
        have hx1 := r_inc ex1 (by decide) (by omega) (by omega)
        refine lv_goto (tgt := 4) hx hb dX9_goDay_110 (by decide) ?_
        exact ih4 f H locs ls x1 v107_l1 (by omega) (by omega) (by omega) hT hP hD hS (lv_sub hl [0, 1, 2] rfl)
      refine lv_iload_n hx hb dX9_goDay_4 rfl (lv_at hl 0 rfl) ?_
      refine lv_aload_n hx hb dX9_goDay_5 rfl (lv_at hl 2 rfl) ?_
      obtain ⟨e17, h2, h3, h4, h5, h6, h7, h8, h9, h10, h11, h12, h13, h14, h15, h16⟩ := (show okX9 ad m_taped m_size m_faultKind m_faultPlace m_at m_end m_token m_number m_name m_bank m_rb m_codes m_within m_piled m_unitsInRule m_askStrand m_askTied m_thoughtClaim m_thoughtNeed m_thoughtAll m_acts m_undone m_laid m_firstMove m_seens m_time m_waysNow m_fitting 148 (f 148) from hT.1 148 (by decide))
      refine tVI (As := []) (rest := [.int v4_l2]) (i := 148) ⟨hx, hb, hml, hown, hts⟩ hK hE hP hD hS hA hAB (s_X9_threads_0 l B0 adK adV D cy ad fr0 c_text m_taped m_size m_faultKind m_faultPlace m_at m_end m_token m_number m_name c_points c_strands c_units c_told c_ruleFrom c_ruleTo c_code c_eWhat c_eSign m_bank m_rb m_codes m_within m_piled m_unitsInRule m_askStrand m_askTied m_thoughtClaim m_thoughtNeed m_thoughtAll c_roundOf m_acts m_undone m_laid m_firstMove m_seens m_time m_waysNow m_fitting f hT _) (cwV 0 hts gX9_goDay_X9_threads rfl rfl rfl (by decide +kernel) ⟨Nat.le_of_ble_eq_true rfl, Nat.le_of_ble_eq_true rfl⟩) (by decide) 9 e17 rfl rfl hl.1 rfl (Nat.le_of_ble_eq_true rfl) dX9_goDay_6 ⟨Nat.le_of_ble_eq_true rfl, Nat.le_of_ble_eq_true rfl⟩ (fun r g H locs hw hP hD hS => ?_)
      obtain ⟨hrs, rfl⟩ := hw
      obtain ⟨x18, rfl⟩ : ∃ q, q = r := ⟨_, rfl⟩
      have h19 := hrs
      refine lv_icmp_ge (tgt := 113) hx hb dX9_goDay_9 (by decide) (fun c20 => ?_) (fun c20 => ?_)
      · have kc20 := c_le c20
        refine lv_iload_n hx hb dX9_goDay_113 rfl (lv_at hl 1 rfl) ?_
        exact tI hx hb hr hlk rfl hP hS ⟨(by omega), hT⟩ dX9_goDay_114
      · have kc20 := c_nle c20
        refine lv_aload_n hx hb dX9_goDay_12 rfl (lv_at hl 2 rfl) ?_
        refine va_get (D := D) (cl := vwCl) (ci := 9) (v := .ref (ad 169)) (C := RX9) (T := TX9) (N := 64) hx hb hts in_X9_goDay_X9 hown hK hP 148 (wl_at (by decide) e17) rfl 37 (by decide) (hts (.fieldLink RX9 76 "EightReasonsModel" "all" "[I") (List.mem_of_getElem? (i := 1) rfl)) (fun _ h9 => h9) rfl dX9_goDay_13 ?_
        refine lv_iconst (v := 1) hx hb dX9_goDay_16 (by decide) ?_
        obtain ⟨g23, e21, h22⟩ := (show okIr cy 16 (0) (4095) 16 1 (f 169) from hT.1 169 (by decide))
        have ttl_1 := tl_1
        refine va_iald hx hb hK hP 169 0 (wl_at (by decide) e21) rfl (vin (by decide)) dX9_goDay_17 ?_
        refine lv_topi (fun x24 ex24 => ?_)
        have hx24 := r_el (h22 _ (by decide)) ex24
        refine lv_iload_n hx hb dX9_goDay_18 rfl (lv_at hl 0 rfl) ?_
        refine tSI (As := [.int x24, .int v4_l2]) (rest := []) ⟨hx, hb, hml, hown, hts⟩ hK hE hP hD hS hA hAB (s_X9_bit_0 l B0 adK adV D cy ad f x24 v4_l2 (by omega) _) (va_cwS 2 hts gX9_goDay_X9_bit rfl rfl rfl (by decide +kernel) ⟨Nat.le_of_ble_eq_true rfl, Nat.le_of_ble_eq_true rfl⟩) rfl hl.1 rfl (Nat.le_of_ble_eq_true rfl) dX9_goDay_19 ⟨Nat.le_of_ble_eq_true rfl, Nat.le_of_ble_eq_true rfl⟩ (fun r g H locs hw hP hD hS => ?_)
        obtain ⟨hrs, rfl⟩ := hw
        obtain ⟨x25, rfl⟩ : ∃ q, q = r := ⟨_, rfl⟩
        rcases hrs with ⟨rfl, h26⟩ | ⟨rfl, h27⟩
        · refine lv_if_eq (tgt := 107) hx hb dX9_goDay_22 (by decide) (fun c => absurd c (by decide)) (fun _ => ?_)
          refine lv_aload_n hx hb dX9_goDay_25 rfl (lv_at hl 2 rfl) ?_
          refine va_get (D := D) (cl := vwCl) (ci := 9) (v := .ref (ad 169)) (C := RX9) (T := TX9) (N := 64) hx hb hts in_X9_goDay_X9 hown hK hP 148 (wl_at (by decide) e17) rfl 37 (by decide) (hts (.fieldLink RX9 76 "EightReasonsModel" "all" "[I") (List.mem_of_getElem? (i := 1) rfl)) (fun _ h9 => h9) rfl dX9_goDay_26 ?_
          refine lv_iconst (v := 2) hx hb dX9_goDay_29 (by decide) ?_
          refine lv_iload_n hx hb dX9_goDay_30 rfl (lv_at hl 0 rfl) ?_
          have ttl_2 := tl_2
          refine lv_iadd hx hb dX9_goDay_31 ?_
          refine lv_topi (fun x28 ex28 => ?_)
          have hx28 := r_add ex28 (by omega) (by omega)
          have hc29 := clampZ (x := x28) (by omega)
          refine va_iald hx hb hK hP 169 0 (wl_at (by decide) e21) rfl (vp_in_iff.mpr ⟨by omega, by omega⟩) dX9_goDay_32 ?_
          refine lv_topi (fun x30 ex30 => ?_)
          have hx30 := r_elc (h22 _) ex30
          have ttl_0 := tl_0
          refine lv_if_ne (tgt := 39) hx hb dX9_goDay_33 (by decide) (fun c31 => ?_) (fun c31 => ?_)
          · have kc31 := c_ne c31
            refine lv_aload_n hx hb dX9_goDay_39 rfl (lv_at hl 2 rfl) ?_
            refine va_get (D := D) (cl := vwCl) (ci := 9) (v := .ref (ad 169)) (C := RX9) (T := TX9) (N := 64) hx hb hts in_X9_goDay_X9 hown hK hP 148 (wl_at (by decide) e17) rfl 37 (by decide) (hts (.fieldLink RX9 76 "EightReasonsModel" "all" "[I") (List.mem_of_getElem? (i := 1) rfl)) (fun _ h9 => h9) rfl dX9_goDay_40 ?_
            refine lv_bipush (v := 15) hx hb dX9_goDay_43 (by decide) ?_
            refine lv_sipush (v := 137) hx hb dX9_goDay_45 (by decide) ?_
            refine lv_aload_n hx hb dX9_goDay_48 rfl (lv_at hl 2 rfl) ?_
            refine va_get (D := D) (cl := vwCl) (ci := 9) (v := .ref (ad 169)) (C := RX9) (T := TX9) (N := 64) hx hb hts in_X9_goDay_X9 hown hK hP 148 (wl_at (by decide) e17) rfl 37 (by decide) (hts (.fieldLink RX9 76 "EightReasonsModel" "all" "[I") (List.mem_of_getElem? (i := 1) rfl)) (fun _ h9 => h9) rfl dX9_goDay_49 ?_
            refine lv_bipush (v := 15) hx hb dX9_goDay_52 (by decide) ?_
            have ttl_15 := tl_15
            refine va_iald hx hb hK hP 169 0 (wl_at (by decide) e21) rfl (vin (by decide)) dX9_goDay_54 ?_
            refine lv_topi (fun x32 ex32 => ?_)
            refine lv_imul hx hb dX9_goDay_55 ?_
            refine lv_topi (fun x33 ex33 => ?_)
            refine lv_bipush (v := 71) hx hb dX9_goDay_56 (by decide) ?_
            refine lv_iadd hx hb dX9_goDay_58 ?_
            refine lv_topi (fun x34 ex34 => ?_)
            refine lv_sipush (v := 1000) hx hb dX9_goDay_59 (by decide) ?_
            refine lv_irem hx hb dX9_goDay_62 (by decide) ?_
            refine lv_topi (fun x35 ex35 => ?_)
            have hx35 := r_rem2 ex35 tl_1000 (by decide)
            refine va_iast hx hb hK hP hD hS 169 0 (wl_at (by decide) e21) rfl (vin (by decide)) dX9_goDay_63 (fun H locs hP hD hS => ?_)
            obtain ⟨f, hT, hP, hD, e36, hj37⟩ := stU (by decide) (TYm.up hT (by decide) (show OKm ad cy c_text m_taped m_size m_faultKind m_faultPlace m_at m_end m_token m_number m_name c_points c_strands c_units c_told c_ruleFrom c_ruleTo c_code c_eWhat c_eSign m_bank m_rb m_codes m_within m_piled m_unitsInRule m_askStrand m_askTied m_thoughtClaim m_thoughtNeed m_thoughtAll c_roundOf m_acts m_undone m_laid m_firstMove m_seens m_time m_waysNow m_fitting 169 _ from (show okIr cy 16 (0) (4095) 16 1 _ from ⟨_, rfl, upd_r h22 (fun q => absurd q (by decide))⟩))) hP hD
            have e38 := (hj37 148 (by decide)).trans e17
            refine lv_aload_n hx hb dX9_goDay_64 rfl (lv_at hl 2 rfl) ?_
            refine va_get (D := D) (cl := vwCl) (ci := 9) (v := .ref (ad 169)) (C := RX9) (T := TX9) (N := 64) hx hb hts in_X9_goDay_X9 hown hK hP 148 (wl_at (by decide) e38) rfl 37 (by decide) (hts (.fieldLink RX9 76 "EightReasonsModel" "all" "[I") (List.mem_of_getElem? (i := 1) rfl)) (fun _ h9 => h9) rfl dX9_goDay_65 ?_
            refine lv_bipush (v := 15) hx hb dX9_goDay_68 (by decide) ?_
            obtain ⟨g41, e39, h40⟩ := (show okIr cy 16 (0) (4095) 16 1 (f 169) from hT.1 169 (by decide))
            refine va_iald hx hb hK hP 169 0 (wl_at (by decide) e39) rfl (vin (by decide)) dX9_goDay_70 ?_
            refine lv_topi (fun x42 ex42 => ?_)
            refine lv_bipush (v := 100) hx hb dX9_goDay_71 (by decide) ?_
            refine lv_irem hx hb dX9_goDay_73 (by decide) ?_
            refine lv_topi (fun x43 ex43 => ?_)
            have hx43 := r_rem2 ex43 tl_100 (by decide)
            refine lv_aload_n hx hb dX9_goDay_74 rfl (lv_at hl 2 rfl) ?_
            refine va_get (D := D) (cl := vwCl) (ci := 9) (v := .ref (ad 154)) (C := RX9) (T := TX9) (N := 64) hx hb hts in_X9_goDay_X9 hown hK hP 148 (wl_at (by decide) e38) rfl 14 (by decide) (hts (.fieldLink RX9 30 "EightReasonsModel" "fray" "[I") (List.mem_of_getElem? (i := 2) rfl)) (fun _ h9 => h9) rfl dX9_goDay_75 ?_
            refine lv_aload_n hx hb dX9_goDay_78 rfl (lv_at hl 2 rfl) ?_
            refine va_get (D := D) (cl := vwCl) (ci := 9) (v := .int m_bank) (C := RX9) (T := TX9) (N := 64) hx hb hts in_X9_goDay_X9 hown hK hP 148 (wl_at (by decide) e38) rfl 29 (by decide) (hts (.fieldLink RX9 239 "EightReasonsModel" "bank" "I") (List.mem_of_getElem? (i := 3) rfl)) (fun _ h9 => h9) rfl dX9_goDay_79 ?_
            obtain ⟨g45, e44⟩ := (show okI cy 2 (f 154) from hT.1 154 (by decide))
            refine va_iald hx hb hK hP 154 0 (wl_at (by decide) e44) rfl (vp_in_iff.mpr ⟨by omega, by omega⟩) dX9_goDay_82 ?_
            refine lv_topi (fun x46 ex46 => ?_)
            refine lv_icmp_lt (tgt := 89) hx hb dX9_goDay_83 (by decide) (fun c47 => ?_) (fun c47 => ?_)
            · have kc47 := c_lt c47
              refine lv_aload_n hx hb dX9_goDay_89 rfl (lv_at hl 2 rfl) ?_
              refine va_get (D := D) (cl := vwCl) (ci := 9) (v := .ref (ad 169)) (C := RX9) (T := TX9) (N := 64) hx hb hts in_X9_goDay_X9 hown hK hP 148 (wl_at (by decide) e38) rfl 37 (by decide) (hts (.fieldLink RX9 76 "EightReasonsModel" "all" "[I") (List.mem_of_getElem? (i := 1) rfl)) (fun _ h9 => h9) rfl dX9_goDay_90 ?_
              refine lv_iconst (v := 2) hx hb dX9_goDay_93 (by decide) ?_
              refine lv_iload_n hx hb dX9_goDay_94 rfl (lv_at hl 0 rfl) ?_
              refine lv_iadd hx hb dX9_goDay_95 ?_
              refine lv_topi (fun x48 ex48 => ?_)
              have hx48 := r_add ex48 (by omega) (by omega)
              refine lv_dup2_11 hx hb dX9_goDay_96 rfl rfl ?_
              have hc49 := clampZ (x := x48) (by omega)
              refine va_iald hx hb hK hP 169 0 (wl_at (by decide) e39) rfl (vp_in_iff.mpr ⟨by omega, by omega⟩) dX9_goDay_97 ?_
              refine lv_topi (fun x50 ex50 => ?_)
              have hx50 := r_elc (h40 _) ex50
              refine lv_iconst (v := 1) hx hb dX9_goDay_98 (by decide) ?_
              refine lv_isub hx hb dX9_goDay_99 ?_
              refine lv_topi (fun x51 ex51 => ?_)
              refine va_iast hx hb hK hP hD hS 169 0 (wl_at (by decide) e39) rfl (vp_in_iff.mpr ⟨by omega, by omega⟩) dX9_goDay_100 (fun H locs hP hD hS => ?_)
              have hc52 := clampZ (x := x48) (by omega)
              obtain ⟨f, hT, hP, hD, e53, hj54⟩ := stU (by decide) (TYm.up hT (by decide) (show OKm ad cy c_text m_taped m_size m_faultKind m_faultPlace m_at m_end m_token m_number m_name c_points c_strands c_units c_told c_ruleFrom c_ruleTo c_code c_eWhat c_eSign m_bank m_rb m_codes m_within m_piled m_unitsInRule m_askStrand m_askTied m_thoughtClaim m_thoughtNeed m_thoughtAll c_roundOf m_acts m_undone m_laid m_firstMove m_seens m_time m_waysNow m_fitting 169 _ from (show okIr cy 16 (0) (4095) 16 1 _ from ⟨_, rfl, upd_r h40 (fun q => by omega)⟩))) hP hD
              have e55 := (hj54 148 (by decide)).trans e38
              have e56 := (hj54 154 (by decide)).trans e44
              refine lv_iload_n hx hb dX9_goDay_101 rfl (lv_at hl 1 rfl) ?_
              refine lv_iconst (v := 1) hx hb dX9_goDay_102 (by decide) ?_
              refine lv_iload_n hx hb dX9_goDay_103 rfl (lv_at hl 0 rfl) ?_
              refine lv_ishl hx hb dX9_goDay_104 ?_
              refine lv_topi (fun x57 ex57 => ?_)
              have hx57 := r_shl (K := 11) (M := 2048) ex57 (by decide) (by decide) (by omega) (by omega)
              refine lv_ior hx hb dX9_goDay_105 ?_
              refine lv_topi (fun x58 ex58 => ?_)
              have hx58 := r_or (k := 12) (K := 4096) ex58 (by decide) (by decide) (by omega) (by omega) (by omega) (by omega)
              refine lv_istore_n (lv' := [(1, .int x58), (2, .int v4_l2), (0, .ref (ad 148))]) hx hb dX9_goDay_106 rfl hl (by decide) rfl (fun ls hl => ?_)
              exact j107 f H locs ls x58 (by omega) (by omega) hT hP hD hS (lv_sub hl [0, 1, 2] rfl)
            · have kc47 := c_nlt c47
              refine lv_goto (tgt := 107) hx hb dX9_goDay_86 (by decide) ?_
              exact j107 f H locs ls v4_l1 (by omega) (by omega) hT hP hD hS (lv_sub hl [1, 0, 2] rfl)
          · have kc31 := c_eq c31
            refine lv_goto (tgt := 107) hx hb dX9_goDay_36 (by decide) ?_
            exact j107 f H locs ls v4_l1 (by omega) (by omega) hT hP hD hS (lv_sub hl [1, 0, 2] rfl)
        · refine lv_if_eq (tgt := 107) hx hb dX9_goDay_22 (by decide) (fun _ => ?_) (fun c => absurd (by decide) c)
          exact j107 f H locs ls v4_l1 (by omega) (by omega) hT hP hD hS (lv_sub hl [1, 0, 2] rfl)
  refine lv_iconst (v := 0) hx hb dX9_goDay_0 (by decide) ?_
  refine lv_istore_n (lv' := [(1, .int 0), (0, .ref (ad 148))]) hx hb dX9_goDay_1 rfl hl (by decide) rfl (fun ls hl => ?_)
  refine lv_iconst (v := 0) hx hb dX9_goDay_2 (by decide) ?_
  refine lv_istore_n (lv' := [(2, .int 0), (1, .int 0), (0, .ref (ad 148))]) hx hb dX9_goDay_3 rfl hl (by decide) rfl (fun ls hl => ?_)
  have ttl_0 := tl_0
  exact j4 (Int.toNat (13 - (0 : Int32).toInt)) f H locs ls (0 : Int32) (0 : Int32) (by omega) (by omega) (by omega) hT hP hD hS (lv_sub hl [0, 1, 2] rfl)
set_option maxHeartbeats 4000000 in
set_option maxRecDepth 100000 in
theorem s_X9_day_0 (l : Launch) (B0 : Nat) (adK adV : Nat → Nat) (D : va_G) (cy : Nat → ClassId) (ad : Nat → Nat) (fr0 : Nat → va_E) (c_text : Nat → Int32) (m_taped : Int32) (m_size : Int32) (m_faultKind : Int32) (m_faultPlace : Int32) (m_at : Int32) (m_end : Int32) (m_token : Int32) (m_number : Int32) (m_name : Int64) (c_points : Nat → Int32) (c_strands : Nat → Int32) (c_units : Nat → Int32) (c_told : Nat → Int32) (c_ruleFrom : Nat → Int32) (c_ruleTo : Nat → Int32) (c_code : Nat → Int32) (c_eWhat : Nat → Int32) (c_eSign : Nat → Int32) (m_bank : Int32) (m_rb : Int32) (m_codes : Int32) (m_within : Int32) (m_piled : Int32) (m_unitsInRule : Int32) (m_askStrand : Int32) (m_askTied : Int32) (m_thoughtClaim : Int32) (m_thoughtNeed : Int32) (m_thoughtAll : Int32) (c_roundOf : Nat → Int32) (m_acts : Int32) (m_undone : Int32) (m_laid : Int32) (m_firstMove : Int32) (m_seens : Int32) (m_time : Int32) (m_waysNow : Int32) (m_fitting : Int32) (f : Nat → va_E) (hT : TYm ad cy fr0 c_text m_taped m_size m_faultKind m_faultPlace m_at m_end m_token m_number m_name c_points c_strands c_units c_told c_ruleFrom c_ruleTo c_code c_eWhat c_eSign m_bank m_rb m_codes m_within m_piled m_unitsInRule m_askStrand m_askTied m_thoughtClaim m_thoughtNeed m_thoughtAll c_roundOf m_acts m_undone m_laid m_firstMove m_seens m_time m_waysNow m_fitting f) (hh0 : m_acts.toInt + m_undone.toInt ≤ 40 ∧ 0 ≤ m_undone.toInt) (sz : Nat) : TtI l yX9_day wsX9_day 2 43 [.ref (ad 148)] B0 adK adV D cy ad f sz (fun (r : Int32) (g : Nat → va_E) => (-1 ≤ r.toInt ∧ r.toInt ≤ 4095) ∧ (∃ (m_acts' : Int32) (m_undone' : Int32), TYm ad cy fr0 c_text m_taped m_size m_faultKind m_faultPlace m_at m_end m_token m_number m_name c_points c_strands c_units c_told c_ruleFrom c_ruleTo c_code c_eWhat c_eSign m_bank m_rb m_codes m_within m_piled m_unitsInRule m_askStrand m_askTied m_thoughtClaim m_thoughtNeed m_thoughtAll c_roundOf m_acts' m_undone' m_laid m_firstMove m_seens m_time m_waysNow m_fitting g ∧ (m_acts'.toInt + m_undone'.toInt ≤ 40 ∧ 0 ≤ m_undone'.toInt))) := by
  refine TtI.of (cc := cX9_day) (maxL := 1) (ty := .int) (own := RX9) (by decide) rfl (Nat.le_of_ble_eq_true rfl) rfl ?_
  intro p e s m below meth c A ls hx hb hr hml hts hown hlk hK hE hP hD hS hA hAB hl
  have hl : lv_has ls 1 [(0, .ref (ad 148))] := hl
  refine st0 (fun H locs hP hS => ?_) hP hS
  refine lv_aload_n hx hb dX9_day_0 rfl (lv_at hl 0 rfl) ?_
  obtain ⟨e16, h1, h2, h3, h4, h5, h6, h7, h8, h9, h10, h11, h12, h13, h14, h15⟩ := (show okX9 ad m_taped m_size m_faultKind m_faultPlace m_at m_end m_token m_number m_name m_bank m_rb m_codes m_within m_piled m_unitsInRule m_askStrand m_askTied m_thoughtClaim m_thoughtNeed m_thoughtAll m_acts m_undone m_laid m_firstMove m_seens m_time m_waysNow m_fitting 148 (f 148) from hT.1 148 (by decide))
  refine va_get (D := D) (cl := vwCl) (ci := 9) (v := .ref (ad 169)) (C := RX9) (T := TX9) (N := 64) hx hb hts in_X9_day_X9 hown hK hP 148 (wl_at (by decide) e16) rfl 37 (by decide) (hts (.fieldLink RX9 76 "EightReasonsModel" "all" "[I") (List.mem_of_getElem? (i := 1) rfl)) (fun _ h9 => h9) rfl dX9_day_1 ?_
  refine lv_bipush (v := 14) hx hb dX9_day_4 (by decide) ?_
  obtain ⟨g19, e17, h18⟩ := (show okIr cy 16 (0) (4095) 16 1 (f 169) from hT.1 169 (by decide))
  have ttl_14 := tl_14
  refine va_iald hx hb hK hP 169 0 (wl_at (by decide) e17) rfl (vin (by decide)) dX9_day_6 ?_
  refine lv_topi (fun x20 ex20 => ?_)
  refine lv_sipush (v := 999) hx hb dX9_day_7 (by decide) ?_
  have ttl_999 := tl_999
  refine lv_icmp_ne (tgt := 15) hx hb dX9_day_10 (by decide) (fun c21 => ?_) (fun c21 => ?_)
  · have kc21 := c_ne c21
    refine lv_aload_n hx hb dX9_day_15 rfl (lv_at hl 0 rfl) ?_
    refine tVV (As := []) (rest := []) (i := 148) ⟨hx, hb, hml, hown, hts⟩ hK hE hP hD hS hA hAB (s_X9_keepAct_0 l B0 adK adV D cy ad fr0 c_text m_taped m_size m_faultKind m_faultPlace m_at m_end m_token m_number m_name c_points c_strands c_units c_told c_ruleFrom c_ruleTo c_code c_eWhat c_eSign m_bank m_rb m_codes m_within m_piled m_unitsInRule m_askStrand m_askTied m_thoughtClaim m_thoughtNeed m_thoughtAll c_roundOf m_acts m_undone m_laid m_firstMove m_seens m_time m_waysNow m_fitting f hT _) (cwV 0 hts gX9_day_X9_keepAct rfl rfl rfl (by decide +kernel) ⟨Nat.le_of_ble_eq_true rfl, Nat.le_of_ble_eq_true rfl⟩) (by decide) 9 e16 rfl rfl hl.1 rfl (Nat.le_of_ble_eq_true rfl) dX9_day_16 ⟨Nat.le_of_ble_eq_true rfl, Nat.le_of_ble_eq_true rfl⟩ (fun f H locs hw hP hD hS => ?_)
    obtain ⟨hrs, x22, x23, hT, h24, h25, h26⟩ := hw
    refine lv_aload_n hx hb dX9_day_19 rfl (lv_at hl 0 rfl) ?_
    obtain ⟨e42, h27, h28, h29, h30, h31, h32, h33, h34, h35, h36, h37, h38, h39, h40, h41⟩ := (show okX9 ad m_taped m_size m_faultKind m_faultPlace m_at m_end m_token m_number m_name m_bank m_rb m_codes m_within m_piled m_unitsInRule m_askStrand m_askTied m_thoughtClaim m_thoughtNeed m_thoughtAll x22 x23 m_laid m_firstMove m_seens m_time m_waysNow m_fitting 148 (f 148) from hT.1 148 (by decide))
    refine va_get (D := D) (cl := vwCl) (ci := 9) (v := .ref (ad 169)) (C := RX9) (T := TX9) (N := 64) hx hb hts in_X9_day_X9 hown hK hP 148 (wl_at (by decide) e42) rfl 37 (by decide) (hts (.fieldLink RX9 76 "EightReasonsModel" "all" "[I") (List.mem_of_getElem? (i := 1) rfl)) (fun _ h9 => h9) rfl dX9_day_20 ?_
    refine lv_bipush (v := 14) hx hb dX9_day_23 (by decide) ?_
    refine lv_dup2_11 hx hb dX9_day_25 rfl rfl ?_
    obtain ⟨g45, e43, h44⟩ := (show okIr cy 16 (0) (4095) 16 1 (f 169) from hT.1 169 (by decide))
    refine va_iald hx hb hK hP 169 0 (wl_at (by decide) e43) rfl (vin (by decide)) dX9_day_26 ?_
    refine lv_topi (fun x46 ex46 => ?_)
    refine lv_iconst (v := 1) hx hb dX9_day_27 (by decide) ?_
    refine lv_iadd hx hb dX9_day_28 ?_
    refine lv_topi (fun x47 ex47 => ?_)
    refine va_iast hx hb hK hP hD hS 169 0 (wl_at (by decide) e43) rfl (vin (by decide)) dX9_day_29 (fun H locs hP hD hS => ?_)
    obtain ⟨f, hT, hP, hD, e48, hj49⟩ := stU (by decide) (TYm.up hT (by decide) (show OKm ad cy c_text m_taped m_size m_faultKind m_faultPlace m_at m_end m_token m_number m_name c_points c_strands c_units c_told c_ruleFrom c_ruleTo c_code c_eWhat c_eSign m_bank m_rb m_codes m_within m_piled m_unitsInRule m_askStrand m_askTied m_thoughtClaim m_thoughtNeed m_thoughtAll c_roundOf x22 x23 m_laid m_firstMove m_seens m_time m_waysNow m_fitting 169 _ from (show okIr cy 16 (0) (4095) 16 1 _ from ⟨_, rfl, upd_r h44 (fun q => absurd q (by decide))⟩))) hP hD
    have e50 := (hj49 148 (by decide)).trans e42
    refine lv_aload_n hx hb dX9_day_30 rfl (lv_at hl 0 rfl) ?_
    refine tVI (As := []) (rest := []) (i := 148) ⟨hx, hb, hml, hown, hts⟩ hK hE hP hD hS hA hAB (s_X9_goDay_0 l B0 adK adV D cy ad fr0 c_text m_taped m_size m_faultKind m_faultPlace m_at m_end m_token m_number m_name c_points c_strands c_units c_told c_ruleFrom c_ruleTo c_code c_eWhat c_eSign m_bank m_rb m_codes m_within m_piled m_unitsInRule m_askStrand m_askTied m_thoughtClaim m_thoughtNeed m_thoughtAll c_roundOf x22 x23 m_laid m_firstMove m_seens m_time m_waysNow m_fitting f hT _) (cwV 0 hts gX9_day_X9_goDay rfl rfl rfl (by decide +kernel) ⟨Nat.le_of_ble_eq_true rfl, Nat.le_of_ble_eq_true rfl⟩) (by decide) 9 e50 rfl rfl hl.1 rfl (Nat.le_of_ble_eq_true rfl) dX9_day_31 ⟨Nat.le_of_ble_eq_true rfl, Nat.le_of_ble_eq_true rfl⟩ (fun r f H locs hw hP hD hS => ?_)
    obtain ⟨hrs, hT⟩ := hw
    obtain ⟨x51, rfl⟩ : ∃ q, q = r := ⟨_, rfl⟩
    have h52 := hrs
    exact tI hx hb hr hlk rfl hP hS ⟨(by omega), ⟨x22, x23, hT, by omega⟩⟩ dX9_day_34
  · have kc21 := c_eq c21
    refine lv_iconst (v := (-1)) hx hb dX9_day_13 (by decide) ?_
    have ttl_m1 := tl_m1
    exact tI hx hb hr hlk rfl hP hS ⟨(by omega), ⟨m_acts, m_undone, hT, by omega⟩⟩ dX9_day_14
set_option maxHeartbeats 4000000 in
set_option maxRecDepth 100000 in
theorem s_X9_swapAll_0 (l : Launch) (B0 : Nat) (adK adV : Nat → Nat) (D : va_G) (cy : Nat → ClassId) (ad : Nat → Nat) (fr0 : Nat → va_E) (c_text : Nat → Int32) (m_taped : Int32) (m_size : Int32) (m_faultKind : Int32) (m_faultPlace : Int32) (m_at : Int32) (m_end : Int32) (m_token : Int32) (m_number : Int32) (m_name : Int64) (c_points : Nat → Int32) (c_strands : Nat → Int32) (c_units : Nat → Int32) (c_told : Nat → Int32) (c_ruleFrom : Nat → Int32) (c_ruleTo : Nat → Int32) (c_code : Nat → Int32) (c_eWhat : Nat → Int32) (c_eSign : Nat → Int32) (m_bank : Int32) (m_rb : Int32) (m_codes : Int32) (m_within : Int32) (m_piled : Int32) (m_unitsInRule : Int32) (m_askStrand : Int32) (m_askTied : Int32) (m_thoughtClaim : Int32) (m_thoughtNeed : Int32) (m_thoughtAll : Int32) (c_roundOf : Nat → Int32) (m_acts : Int32) (m_undone : Int32) (m_laid : Int32) (m_firstMove : Int32) (m_seens : Int32) (m_time : Int32) (m_waysNow : Int32) (m_fitting : Int32) (f : Nat → va_E) (hT : TYm ad cy fr0 c_text m_taped m_size m_faultKind m_faultPlace m_at m_end m_token m_number m_name c_points c_strands c_units c_told c_ruleFrom c_ruleTo c_code c_eWhat c_eSign m_bank m_rb m_codes m_within m_piled m_unitsInRule m_askStrand m_askTied m_thoughtClaim m_thoughtNeed m_thoughtAll c_roundOf m_acts m_undone m_laid m_firstMove m_seens m_time m_waysNow m_fitting f) (sz : Nat) : TtV l yX9_swapAll wsX9_swapAll 0 0 [.ref (ad 148)] B0 adK adV D cy ad f sz (fun (g : Nat → va_E) => True ∧ (TYm ad cy fr0 c_text m_taped m_size m_faultKind m_faultPlace m_at m_end m_token m_number m_name c_points c_strands c_units c_told c_ruleFrom c_ruleTo c_code c_eWhat c_eSign m_bank m_rb m_codes m_within m_piled m_unitsInRule m_askStrand m_askTied m_thoughtClaim m_thoughtNeed m_thoughtAll c_roundOf m_acts m_undone m_laid m_firstMove m_seens m_time m_waysNow m_fitting g)) := by
  refine TtV.of (cc := cX9_swapAll) (maxL := 3) (own := RX9) (by decide) rfl (Nat.le_of_ble_eq_true rfl) rfl ?_
  intro p e s m below meth c A ls hx hb hr hml hts hown hlk hK hE hP hD hS hA hAB hl
  have hl : lv_has ls 3 [(0, .ref (ad 148))] := hl
  refine st0 (fun H locs hP hS => ?_) hP hS
  have j2 : ∀ (N : Nat) (f : Nat → va_E) (H : Heap) (locs : List Loc) (ls : Array Slot) (v2_l1 : Int32), (20 - v2_l1.toInt ≤ (N : Int)) → (0 ≤ v2_l1.toInt ∧ v2_l1.toInt ≤ 19) → (TYm ad cy fr0 c_text m_taped m_size m_faultKind m_faultPlace m_at m_end m_token m_number m_name c_points c_strands c_units c_told c_ruleFrom c_ruleTo c_code c_eWhat c_eSign m_bank m_rb m_codes m_within m_piled m_unitsInRule m_askStrand m_askTied m_thoughtClaim m_thoughtNeed m_thoughtAll c_roundOf m_acts m_undone m_laid m_firstMove m_seens m_time m_waysNow m_fitting f) → (va_P D vwCl (wl ad f) H) → (va_D A (wl ad f)) → (va_S A s.heap H locs) → (lv_has ls 3 [(1, .int v2_l1), (0, .ref (ad 148))]) → W p l e (rmO 0 0 0 0) s m ([.ref (ad 148)] : List Value).toArray below meth c H locs 0 0 (MQ below (va_Qv (fun (g : Nat → va_E) => True ∧ (TYm ad cy fr0 c_text m_taped m_size m_faultKind m_faultPlace m_at m_end m_token m_number m_name c_points c_strands c_units c_told c_ruleFrom c_ruleTo c_code c_eWhat c_eSign m_bank m_rb m_codes m_within m_piled m_unitsInRule m_askStrand m_askTied m_thoughtClaim m_thoughtNeed m_thoughtAll c_roundOf m_acts m_undone m_laid m_firstMove m_seens m_time m_waysNow m_fitting g)) (fun g t => PstT D ad g t) A) ([.ref (ad 148)] : List Value).toArray s 0 0 A) (F0 m 2 ls []) := by
    intro N
    induction N with
    | zero => intro f H locs ls v2_l1 hN hv2_l1 hT hP hD hS hl; exact absurd hN (by omega)
    | succ N ih2 =>
      intro f H locs ls v2_l1 hN hv2_l1 hT hP hD hS hl
      refine lv_iload_n hx hb dX9_swapAll_2 rfl (lv_at hl 0 rfl) ?_
      refine lv_bipush (v := 16) hx hb dX9_swapAll_3 (by decide) ?_
      have ttl_16 := tl_16
      refine lv_icmp_ge (tgt := 56) hx hb dX9_swapAll_5 (by decide) (fun c1 => ?_) (fun c1 => ?_)
      · have kc1 := c_le c1
        exact tV hx hb hr hlk hP hS ⟨trivial, hT⟩ dX9_swapAll_56
      · have kc1 := c_nle c1
        refine lv_aload_n hx hb dX9_swapAll_8 rfl (lv_at hl 1 rfl) ?_
        obtain ⟨e17, h2, h3, h4, h5, h6, h7, h8, h9, h10, h11, h12, h13, h14, h15, h16⟩ := (show okX9 ad m_taped m_size m_faultKind m_faultPlace m_at m_end m_token m_number m_name m_bank m_rb m_codes m_within m_piled m_unitsInRule m_askStrand m_askTied m_thoughtClaim m_thoughtNeed m_thoughtAll m_acts m_undone m_laid m_firstMove m_seens m_time m_waysNow m_fitting 148 (f 148) from hT.1 148 (by decide))
        refine va_get (D := D) (cl := vwCl) (ci := 9) (v := .ref (ad 173)) (C := RX9) (T := TX9) (N := 64) hx hb hts in_X9_swapAll_X9 hown hK hP 148 (wl_at (by decide) e17) rfl 44 (by decide) (hts (.fieldLink RX9 94 "EightReasonsModel" "was" "[I") (List.mem_of_getElem? (i := 1) rfl)) (fun _ h9 => h9) rfl dX9_swapAll_9 ?_
        refine lv_bipush (v := 16) hx hb dX9_swapAll_12 (by decide) ?_
        refine lv_aload_n hx hb dX9_swapAll_14 rfl (lv_at hl 1 rfl) ?_
        refine va_get (D := D) (cl := vwCl) (ci := 9) (v := .int m_acts) (C := RX9) (T := TX9) (N := 64) hx hb hts in_X9_swapAll_X9 hown hK hP 148 (wl_at (by decide) e17) rfl 45 (by decide) (hts (.fieldLink RX9 368 "EightReasonsModel" "acts" "I") (List.mem_of_getElem? (i := 2) rfl)) (fun _ h9 => h9) rfl dX9_swapAll_15 ?_
        refine lv_imul hx hb dX9_swapAll_18 ?_
        refine lv_topi (fun x18 ex18 => ?_)
        have hx18 := r_mull ex18 tl_16 (by omega) (by omega)
        refine lv_iload_n hx hb dX9_swapAll_19 rfl (lv_at hl 0 rfl) ?_
        refine lv_iadd hx hb dX9_swapAll_20 ?_
        refine lv_topi (fun x19 ex19 => ?_)
        have hx19 := r_add ex19 (by omega) (by omega)
        obtain ⟨g22, e20, h21⟩ := (show okIr cy 656 (0) (4095) 16 1 (f 173) from hT.1 173 (by decide))
        have hc23 := clampZ (x := x19) (by omega)
        refine va_iald hx hb hK hP 173 0 (wl_at (by decide) e20) rfl (vp_in_iff.mpr ⟨by omega, by omega⟩) dX9_swapAll_21 ?_
        refine lv_topi (fun x24 ex24 => ?_)
        have hx24 := r_elc (h21 _) ex24
        refine lv_istore_n (lv' := [(2, .int x24), (1, .int v2_l1), (0, .ref (ad 148))]) hx hb dX9_swapAll_22 rfl hl (by decide) rfl (fun ls hl => ?_)
        refine lv_aload_n hx hb dX9_swapAll_23 rfl (lv_at hl 2 rfl) ?_
        refine va_get (D := D) (cl := vwCl) (ci := 9) (v := .ref (ad 173)) (C := RX9) (T := TX9) (N := 64) hx hb hts in_X9_swapAll_X9 hown hK hP 148 (wl_at (by decide) e17) rfl 44 (by decide) (hts (.fieldLink RX9 94 "EightReasonsModel" "was" "[I") (List.mem_of_getElem? (i := 1) rfl)) (fun _ h9 => h9) rfl dX9_swapAll_24 ?_
        refine lv_bipush (v := 16) hx hb dX9_swapAll_27 (by decide) ?_
        refine lv_aload_n hx hb dX9_swapAll_29 rfl (lv_at hl 2 rfl) ?_
        refine va_get (D := D) (cl := vwCl) (ci := 9) (v := .int m_acts) (C := RX9) (T := TX9) (N := 64) hx hb hts in_X9_swapAll_X9 hown hK hP 148 (wl_at (by decide) e17) rfl 45 (by decide) (hts (.fieldLink RX9 368 "EightReasonsModel" "acts" "I") (List.mem_of_getElem? (i := 2) rfl)) (fun _ h9 => h9) rfl dX9_swapAll_30 ?_
        refine lv_imul hx hb dX9_swapAll_33 ?_
        refine lv_topi (fun x25 ex25 => ?_)
        have hx25 := r_mull ex25 tl_16 (by omega) (by omega)
        refine lv_iload_n hx hb dX9_swapAll_34 rfl (lv_at hl 1 rfl) ?_
        refine lv_iadd hx hb dX9_swapAll_35 ?_
        refine lv_topi (fun x26 ex26 => ?_)
        have hx26 := r_add ex26 (by omega) (by omega)
        refine lv_aload_n hx hb dX9_swapAll_36 rfl (lv_at hl 2 rfl) ?_
        refine va_get (D := D) (cl := vwCl) (ci := 9) (v := .ref (ad 169)) (C := RX9) (T := TX9) (N := 64) hx hb hts in_X9_swapAll_X9 hown hK hP 148 (wl_at (by decide) e17) rfl 37 (by decide) (hts (.fieldLink RX9 76 "EightReasonsModel" "all" "[I") (List.mem_of_getElem? (i := 3) rfl)) (fun _ h9 => h9) rfl dX9_swapAll_37 ?_
        refine lv_iload_n hx hb dX9_swapAll_40 rfl (lv_at hl 1 rfl) ?_
        obtain ⟨g29, e27, h28⟩ := (show okIr cy 16 (0) (4095) 16 1 (f 169) from hT.1 169 (by decide))
        have hc30 := clampZ (x := v2_l1) (by omega)
        refine va_iald hx hb hK hP 169 0 (wl_at (by decide) e27) rfl (vp_in_iff.mpr ⟨by omega, by omega⟩) dX9_swapAll_41 ?_
        refine lv_topi (fun x31 ex31 => ?_)
        have hx31 := r_elc (h28 _) ex31
        refine va_iast hx hb hK hP hD hS 173 0 (wl_at (by decide) e20) rfl (vp_in_iff.mpr ⟨by omega, by omega⟩) dX9_swapAll_42 (fun H locs hP hD hS => ?_)
        have hc32 := clampZ (x := x26) (by omega)
        obtain ⟨f, hT, hP, hD, e33, hj34⟩ := stU (by decide) (TYm.up hT (by decide) (show OKm ad cy c_text m_taped m_size m_faultKind m_faultPlace m_at m_end m_token m_number m_name c_points c_strands c_units c_told c_ruleFrom c_ruleTo c_code c_eWhat c_eSign m_bank m_rb m_codes m_within m_piled m_unitsInRule m_askStrand m_askTied m_thoughtClaim m_thoughtNeed m_thoughtAll c_roundOf m_acts m_undone m_laid m_firstMove m_seens m_time m_waysNow m_fitting 173 _ from (show okIr cy 656 (0) (4095) 16 1 _ from ⟨_, rfl, upd_r h21 (fun q => by omega)⟩))) hP hD
        have e35 := (hj34 148 (by decide)).trans e17
        have e36 := (hj34 169 (by decide)).trans e27
        refine lv_aload_n hx hb dX9_swapAll_43 rfl (lv_at hl 2 rfl) ?_
        refine va_get (D := D) (cl := vwCl) (ci := 9) (v := .ref (ad 169)) (C := RX9) (T := TX9) (N := 64) hx hb hts in_X9_swapAll_X9 hown hK hP 148 (wl_at (by decide) e35) rfl 37 (by decide) (hts (.fieldLink RX9 76 "EightReasonsModel" "all" "[I") (List.mem_of_getElem? (i := 3) rfl)) (fun _ h9 => h9) rfl dX9_swapAll_44 ?_
        refine lv_iload_n hx hb dX9_swapAll_47 rfl (lv_at hl 1 rfl) ?_
        refine lv_iload_n hx hb dX9_swapAll_48 rfl (lv_at hl 0 rfl) ?_
        refine va_iast hx hb hK hP hD hS 169 0 (wl_at (by decide) e36) rfl (vp_in_iff.mpr ⟨by omega, by omega⟩) dX9_swapAll_49 (fun H locs hP hD hS => ?_)
        have hc37 := clampZ (x := v2_l1) (by omega)
        obtain ⟨f, hT, hP, hD, e38, hj39⟩ := stU (by decide) (TYm.up hT (by decide) (show OKm ad cy c_text m_taped m_size m_faultKind m_faultPlace m_at m_end m_token m_number m_name c_points c_strands c_units c_told c_ruleFrom c_ruleTo c_code c_eWhat c_eSign m_bank m_rb m_codes m_within m_piled m_unitsInRule m_askStrand m_askTied m_thoughtClaim m_thoughtNeed m_thoughtAll c_roundOf m_acts m_undone m_laid m_firstMove m_seens m_time m_waysNow m_fitting 169 _ from (show okIr cy 16 (0) (4095) 16 1 _ from ⟨_, rfl, upd_r h28 (fun q => by omega)⟩))) hP hD
        have e40 := (hj39 148 (by decide)).trans e35
        obtain ⟨x41, ex41⟩ : ∃ q : Int32, q = v2_l1 + Int32.ofInt (1) := ⟨_, rfl⟩
        refine lv_iinc (v := x41) (lv' := [(1, .int x41), (2, .int x24), (0, .ref (ad 148))]) hx hb dX9_swapAll_50 hl (k := 1) rfl ex41.symm (by decide) rfl (fun ls hl => ?_)
        have hx41 := r_inc ex41 (by decide) (by omega) (by omega)
        refine lv_goto (tgt := 2) hx hb dX9_swapAll_53 (by decide) ?_
        exact ih2 f H locs ls x41 (by omega) (by omega) hT hP hD hS (lv_sub hl [0, 2] rfl)
  refine lv_iconst (v := 0) hx hb dX9_swapAll_0 (by decide) ?_
  refine lv_istore_n (lv' := [(1, .int 0), (0, .ref (ad 148))]) hx hb dX9_swapAll_1 rfl hl (by decide) rfl (fun ls hl => ?_)
  have ttl_0 := tl_0
  exact j2 (Int.toNat (20 - (0 : Int32).toInt)) f H locs ls (0 : Int32) (by omega) (by omega) hT hP hD hS (lv_sub hl [0, 1] rfl)
set_option maxHeartbeats 4000000 in
set_option maxRecDepth 100000 in
theorem s_X9_undo_0 (l : Launch) (B0 : Nat) (adK adV : Nat → Nat) (D : va_G) (cy : Nat → ClassId) (ad : Nat → Nat) (fr0 : Nat → va_E) (c_text : Nat → Int32) (m_taped : Int32) (m_size : Int32) (m_faultKind : Int32) (m_faultPlace : Int32) (m_at : Int32) (m_end : Int32) (m_token : Int32) (m_number : Int32) (m_name : Int64) (c_points : Nat → Int32) (c_strands : Nat → Int32) (c_units : Nat → Int32) (c_told : Nat → Int32) (c_ruleFrom : Nat → Int32) (c_ruleTo : Nat → Int32) (c_code : Nat → Int32) (c_eWhat : Nat → Int32) (c_eSign : Nat → Int32) (m_bank : Int32) (m_rb : Int32) (m_codes : Int32) (m_within : Int32) (m_piled : Int32) (m_unitsInRule : Int32) (m_askStrand : Int32) (m_askTied : Int32) (m_thoughtClaim : Int32) (m_thoughtNeed : Int32) (m_thoughtAll : Int32) (c_roundOf : Nat → Int32) (m_acts : Int32) (m_undone : Int32) (m_laid : Int32) (m_firstMove : Int32) (m_seens : Int32) (m_time : Int32) (m_waysNow : Int32) (m_fitting : Int32) (f : Nat → va_E) (hT : TYm ad cy fr0 c_text m_taped m_size m_faultKind m_faultPlace m_at m_end m_token m_number m_name c_points c_strands c_units c_told c_ruleFrom c_ruleTo c_code c_eWhat c_eSign m_bank m_rb m_codes m_within m_piled m_unitsInRule m_askStrand m_askTied m_thoughtClaim m_thoughtNeed m_thoughtAll c_roundOf m_acts m_undone m_laid m_firstMove m_seens m_time m_waysNow m_fitting f) (hh0 : m_acts.toInt + m_undone.toInt ≤ 40 ∧ 0 ≤ m_undone.toInt) (sz : Nat) : TtI l yX9_undo wsX9_undo 1 22 [.ref (ad 148)] B0 adK adV D cy ad f sz (fun (r : Int32) (g : Nat → va_E) => ((r = 1) ∨ (r = 0)) ∧ (∃ (m_acts' : Int32) (m_undone' : Int32), TYm ad cy fr0 c_text m_taped m_size m_faultKind m_faultPlace m_at m_end m_token m_number m_name c_points c_strands c_units c_told c_ruleFrom c_ruleTo c_code c_eWhat c_eSign m_bank m_rb m_codes m_within m_piled m_unitsInRule m_askStrand m_askTied m_thoughtClaim m_thoughtNeed m_thoughtAll c_roundOf m_acts' m_undone' m_laid m_firstMove m_seens m_time m_waysNow m_fitting g ∧ (0 ≤ m_acts'.toInt ∧ m_acts'.toInt ≤ 39) ∧ (m_acts'.toInt + m_undone'.toInt ≤ 40 ∧ 0 ≤ m_undone'.toInt))) := by
  refine TtI.of (cc := cX9_undo) (maxL := 1) (ty := .boolean) (own := RX9) (by decide) rfl (Nat.le_of_ble_eq_true rfl) rfl ?_
  intro p e s m below meth c A ls hx hb hr hml hts hown hlk hK hE hP hD hS hA hAB hl
  have hl : lv_has ls 1 [(0, .ref (ad 148))] := hl
  refine st0 (fun H locs hP hS => ?_) hP hS
  refine lv_aload_n hx hb dX9_undo_0 rfl (lv_at hl 0 rfl) ?_
  obtain ⟨e16, h1, h2, h3, h4, h5, h6, h7, h8, h9, h10, h11, h12, h13, h14, h15⟩ := (show okX9 ad m_taped m_size m_faultKind m_faultPlace m_at m_end m_token m_number m_name m_bank m_rb m_codes m_within m_piled m_unitsInRule m_askStrand m_askTied m_thoughtClaim m_thoughtNeed m_thoughtAll m_acts m_undone m_laid m_firstMove m_seens m_time m_waysNow m_fitting 148 (f 148) from hT.1 148 (by decide))
  refine va_get (D := D) (cl := vwCl) (ci := 9) (v := .int m_acts) (C := RX9) (T := TX9) (N := 64) hx hb hts in_X9_undo_X9 hown hK hP 148 (wl_at (by decide) e16) rfl 45 (by decide) (hts (.fieldLink RX9 368 "EightReasonsModel" "acts" "I") (List.mem_of_getElem? (i := 1) rfl)) (fun _ h9 => h9) rfl dX9_undo_1 ?_
  have ttl_0 := tl_0
  refine lv_if_ne (tgt := 9) hx hb dX9_undo_4 (by decide) (fun c17 => ?_) (fun c17 => ?_)
  · have kc17 := c_ne c17
    refine lv_aload_n hx hb dX9_undo_9 rfl (lv_at hl 0 rfl) ?_
    refine lv_dup hx hb dX9_undo_10 rfl ?_
    refine va_get (D := D) (cl := vwCl) (ci := 9) (v := .int m_acts) (C := RX9) (T := TX9) (N := 64) hx hb hts in_X9_undo_X9 hown hK hP 148 (wl_at (by decide) e16) rfl 45 (by decide) (hts (.fieldLink RX9 368 "EightReasonsModel" "acts" "I") (List.mem_of_getElem? (i := 1) rfl)) (fun _ h9 => h9) rfl dX9_undo_11 ?_
    refine lv_iconst (v := 1) hx hb dX9_undo_14 (by decide) ?_
    have ttl_1 := tl_1
    refine lv_isub hx hb dX9_undo_15 ?_
    refine lv_topi (fun x18 ex18 => ?_)
    have hx18 := r_sub ex18 (by omega) (by omega)
    refine va_put (D := D) (cl := vwCl) (ci := 9) (v := .int x18) (ty := tyX9 45) (C := RX9) (T := TX9) (N := 64) hx hb hts in_X9_undo_X9 tyX9 tyX9_ok nmX9 hown hK hP hD hS 148 (wl_at (by decide) e16) rfl 45 (by decide) (hts (.fieldLink RX9 368 "EightReasonsModel" "acts" "I") (List.mem_of_getElem? (i := 1) rfl)) (fun _ h9 => h9) rfl (tyX9_ok 45 (by decide)) rfl rfl (Nat.le_of_ble_eq_true rfl) dX9_undo_16 (fun H locs hP hD hS => ?_)
    obtain ⟨f, hT, hP, hD, e19, hj20⟩ := stU (by decide) (TYm.p148 hT (show OKm ad cy c_text m_taped m_size m_faultKind m_faultPlace m_at m_end m_token m_number m_name c_points c_strands c_units c_told c_ruleFrom c_ruleTo c_code c_eWhat c_eSign m_bank m_rb m_codes m_within m_piled m_unitsInRule m_askStrand m_askTied m_thoughtClaim m_thoughtNeed m_thoughtAll c_roundOf x18 m_undone m_laid m_firstMove m_seens m_time m_waysNow m_fitting 148 _ from (show okX9 ad m_taped m_size m_faultKind m_faultPlace m_at m_end m_token m_number m_name m_bank m_rb m_codes m_within m_piled m_unitsInRule m_askStrand m_askTied m_thoughtClaim m_thoughtNeed m_thoughtAll x18 m_undone m_laid m_firstMove m_seens m_time m_waysNow m_fitting 148 _ from ⟨rfl, by omega, by omega, by omega, by omega, by omega, by omega, by omega, by omega, by omega, by omega, by omega, by omega, by omega, by omega, by omega⟩))) hP hD
    refine lv_aload_n hx hb dX9_undo_19 rfl (lv_at hl 0 rfl) ?_
    refine lv_dup hx hb dX9_undo_20 rfl ?_
    refine va_get (D := D) (cl := vwCl) (ci := 9) (v := .int m_undone) (C := RX9) (T := TX9) (N := 64) hx hb hts in_X9_undo_X9 hown hK hP 148 (wl_at (by decide) e19) rfl 46 (by decide) (hts (.fieldLink RX9 371 "EightReasonsModel" "undone" "I") (List.mem_of_getElem? (i := 2) rfl)) (fun _ h9 => h9) rfl dX9_undo_21 ?_
    have ha21 : 0 ≤ m_undone.toInt ∧ m_undone.toInt ≤ 40 := by omega
    refine lv_iconst (v := 1) hx hb dX9_undo_24 (by decide) ?_
    refine lv_iadd hx hb dX9_undo_25 ?_
    refine lv_topi (fun x22 ex22 => ?_)
    have hx22 := r_add ex22 (by omega) (by omega)
    refine va_put (D := D) (cl := vwCl) (ci := 9) (v := .int x22) (ty := tyX9 46) (C := RX9) (T := TX9) (N := 64) hx hb hts in_X9_undo_X9 tyX9 tyX9_ok nmX9 hown hK hP hD hS 148 (wl_at (by decide) e19) rfl 46 (by decide) (hts (.fieldLink RX9 371 "EightReasonsModel" "undone" "I") (List.mem_of_getElem? (i := 2) rfl)) (fun _ h9 => h9) rfl (tyX9_ok 46 (by decide)) rfl rfl (Nat.le_of_ble_eq_true rfl) dX9_undo_26 (fun H locs hP hD hS => ?_)
    obtain ⟨f, hT, hP, hD, e23, hj24⟩ := stU (by decide) (TYm.p148 hT (show OKm ad cy c_text m_taped m_size m_faultKind m_faultPlace m_at m_end m_token m_number m_name c_points c_strands c_units c_told c_ruleFrom c_ruleTo c_code c_eWhat c_eSign m_bank m_rb m_codes m_within m_piled m_unitsInRule m_askStrand m_askTied m_thoughtClaim m_thoughtNeed m_thoughtAll c_roundOf x18 x22 m_laid m_firstMove m_seens m_time m_waysNow m_fitting 148 _ from (show okX9 ad m_taped m_size m_faultKind m_faultPlace m_at m_end m_token m_number m_name m_bank m_rb m_codes m_within m_piled m_unitsInRule m_askStrand m_askTied m_thoughtClaim m_thoughtNeed m_thoughtAll x18 x22 m_laid m_firstMove m_seens m_time m_waysNow m_fitting 148 _ from ⟨rfl, by omega, by omega, by omega, by omega, by omega, by omega, by omega, by omega, by omega, by omega, by omega, by omega, by omega, by omega, by omega⟩))) hP hD
    refine lv_aload_n hx hb dX9_undo_29 rfl (lv_at hl 0 rfl) ?_
    refine tVV (As := []) (rest := []) (i := 148) ⟨hx, hb, hml, hown, hts⟩ hK hE hP hD hS hA hAB (s_X9_swapAll_0 l B0 adK adV D cy ad fr0 c_text m_taped m_size m_faultKind m_faultPlace m_at m_end m_token m_number m_name c_points c_strands c_units c_told c_ruleFrom c_ruleTo c_code c_eWhat c_eSign m_bank m_rb m_codes m_within m_piled m_unitsInRule m_askStrand m_askTied m_thoughtClaim m_thoughtNeed m_thoughtAll c_roundOf x18 x22 m_laid m_firstMove m_seens m_time m_waysNow m_fitting f hT _) (cwV 0 hts gX9_undo_X9_swapAll rfl rfl rfl (by decide +kernel) ⟨Nat.le_of_ble_eq_true rfl, Nat.le_of_ble_eq_true rfl⟩) (by decide) 9 e23 rfl rfl hl.1 rfl (Nat.le_of_ble_eq_true rfl) dX9_undo_30 ⟨Nat.le_of_ble_eq_true rfl, Nat.le_of_ble_eq_true rfl⟩ (fun f H locs hw hP hD hS => ?_)
    obtain ⟨hrs, hT⟩ := hw
    refine lv_iconst (v := 1) hx hb dX9_undo_33 (by decide) ?_
    exact tI hx hb hr hlk rfl hP hS ⟨(Or.inl rfl), ⟨x18, x22, hT, by omega, by omega⟩⟩ dX9_undo_34
  · have kc17 := c_eq c17
    refine lv_iconst (v := 0) hx hb dX9_undo_7 (by decide) ?_
    exact tI hx hb hr hlk rfl hP hS ⟨(Or.inr rfl), ⟨m_acts, m_undone, hT, by omega, by omega⟩⟩ dX9_undo_8
set_option maxHeartbeats 4000000 in
set_option maxRecDepth 100000 in
theorem s_X9_redo_0 (l : Launch) (B0 : Nat) (adK adV : Nat → Nat) (D : va_G) (cy : Nat → ClassId) (ad : Nat → Nat) (fr0 : Nat → va_E) (c_text : Nat → Int32) (m_taped : Int32) (m_size : Int32) (m_faultKind : Int32) (m_faultPlace : Int32) (m_at : Int32) (m_end : Int32) (m_token : Int32) (m_number : Int32) (m_name : Int64) (c_points : Nat → Int32) (c_strands : Nat → Int32) (c_units : Nat → Int32) (c_told : Nat → Int32) (c_ruleFrom : Nat → Int32) (c_ruleTo : Nat → Int32) (c_code : Nat → Int32) (c_eWhat : Nat → Int32) (c_eSign : Nat → Int32) (m_bank : Int32) (m_rb : Int32) (m_codes : Int32) (m_within : Int32) (m_piled : Int32) (m_unitsInRule : Int32) (m_askStrand : Int32) (m_askTied : Int32) (m_thoughtClaim : Int32) (m_thoughtNeed : Int32) (m_thoughtAll : Int32) (c_roundOf : Nat → Int32) (m_acts : Int32) (m_undone : Int32) (m_laid : Int32) (m_firstMove : Int32) (m_seens : Int32) (m_time : Int32) (m_waysNow : Int32) (m_fitting : Int32) (f : Nat → va_E) (hT : TYm ad cy fr0 c_text m_taped m_size m_faultKind m_faultPlace m_at m_end m_token m_number m_name c_points c_strands c_units c_told c_ruleFrom c_ruleTo c_code c_eWhat c_eSign m_bank m_rb m_codes m_within m_piled m_unitsInRule m_askStrand m_askTied m_thoughtClaim m_thoughtNeed m_thoughtAll c_roundOf m_acts m_undone m_laid m_firstMove m_seens m_time m_waysNow m_fitting f) (hh0 : m_acts.toInt + m_undone.toInt ≤ 40 ∧ 0 ≤ m_undone.toInt) (sz : Nat) : TtI l yX9_redo wsX9_redo 1 22 [.ref (ad 148)] B0 adK adV D cy ad f sz (fun (r : Int32) (g : Nat → va_E) => ((r = 1) ∨ (r = 0)) ∧ (∃ (m_acts' : Int32) (m_undone' : Int32), TYm ad cy fr0 c_text m_taped m_size m_faultKind m_faultPlace m_at m_end m_token m_number m_name c_points c_strands c_units c_told c_ruleFrom c_ruleTo c_code c_eWhat c_eSign m_bank m_rb m_codes m_within m_piled m_unitsInRule m_askStrand m_askTied m_thoughtClaim m_thoughtNeed m_thoughtAll c_roundOf m_acts' m_undone' m_laid m_firstMove m_seens m_time m_waysNow m_fitting g ∧ (-1 ≤ m_undone'.toInt ∧ m_undone'.toInt ≤ 39) ∧ (m_acts'.toInt + m_undone'.toInt ≤ 40 ∧ 0 ≤ m_undone'.toInt))) := by
  refine TtI.of (cc := cX9_redo) (maxL := 1) (ty := .boolean) (own := RX9) (by decide) rfl (Nat.le_of_ble_eq_true rfl) rfl ?_
  intro p e s m below meth c A ls hx hb hr hml hts hown hlk hK hE hP hD hS hA hAB hl
  have hl : lv_has ls 1 [(0, .ref (ad 148))] := hl
  refine st0 (fun H locs hP hS => ?_) hP hS
  refine lv_aload_n hx hb dX9_redo_0 rfl (lv_at hl 0 rfl) ?_
  obtain ⟨e16, h1, h2, h3, h4, h5, h6, h7, h8, h9, h10, h11, h12, h13, h14, h15⟩ := (show okX9 ad m_taped m_size m_faultKind m_faultPlace m_at m_end m_token m_number m_name m_bank m_rb m_codes m_within m_piled m_unitsInRule m_askStrand m_askTied m_thoughtClaim m_thoughtNeed m_thoughtAll m_acts m_undone m_laid m_firstMove m_seens m_time m_waysNow m_fitting 148 (f 148) from hT.1 148 (by decide))
  refine va_get (D := D) (cl := vwCl) (ci := 9) (v := .int m_undone) (C := RX9) (T := TX9) (N := 64) hx hb hts in_X9_redo_X9 hown hK hP 148 (wl_at (by decide) e16) rfl 46 (by decide) (hts (.fieldLink RX9 371 "EightReasonsModel" "undone" "I") (List.mem_of_getElem? (i := 1) rfl)) (fun _ h9 => h9) rfl dX9_redo_1 ?_
  have ttl_0 := tl_0
  refine lv_if_ne (tgt := 9) hx hb dX9_redo_4 (by decide) (fun c17 => ?_) (fun c17 => ?_)
  · have kc17 := c_ne c17
    refine lv_aload_n hx hb dX9_redo_9 rfl (lv_at hl 0 rfl) ?_
    refine tVV (As := []) (rest := []) (i := 148) ⟨hx, hb, hml, hown, hts⟩ hK hE hP hD hS hA hAB (s_X9_swapAll_0 l B0 adK adV D cy ad fr0 c_text m_taped m_size m_faultKind m_faultPlace m_at m_end m_token m_number m_name c_points c_strands c_units c_told c_ruleFrom c_ruleTo c_code c_eWhat c_eSign m_bank m_rb m_codes m_within m_piled m_unitsInRule m_askStrand m_askTied m_thoughtClaim m_thoughtNeed m_thoughtAll c_roundOf m_acts m_undone m_laid m_firstMove m_seens m_time m_waysNow m_fitting f hT _) (cwV 0 hts gX9_redo_X9_swapAll rfl rfl rfl (by decide +kernel) ⟨Nat.le_of_ble_eq_true rfl, Nat.le_of_ble_eq_true rfl⟩) (by decide) 9 e16 rfl rfl hl.1 rfl (Nat.le_of_ble_eq_true rfl) dX9_redo_10 ⟨Nat.le_of_ble_eq_true rfl, Nat.le_of_ble_eq_true rfl⟩ (fun f H locs hw hP hD hS => ?_)
    obtain ⟨hrs, hT⟩ := hw
    refine lv_aload_n hx hb dX9_redo_13 rfl (lv_at hl 0 rfl) ?_
    refine lv_dup hx hb dX9_redo_14 rfl ?_
    obtain ⟨e33, h18, h19, h20, h21, h22, h23, h24, h25, h26, h27, h28, h29, h30, h31, h32⟩ := (show okX9 ad m_taped m_size m_faultKind m_faultPlace m_at m_end m_token m_number m_name m_bank m_rb m_codes m_within m_piled m_unitsInRule m_askStrand m_askTied m_thoughtClaim m_thoughtNeed m_thoughtAll m_acts m_undone m_laid m_firstMove m_seens m_time m_waysNow m_fitting 148 (f 148) from hT.1 148 (by decide))
    refine va_get (D := D) (cl := vwCl) (ci := 9) (v := .int m_acts) (C := RX9) (T := TX9) (N := 64) hx hb hts in_X9_redo_X9 hown hK hP 148 (wl_at (by decide) e33) rfl 45 (by decide) (hts (.fieldLink RX9 368 "EightReasonsModel" "acts" "I") (List.mem_of_getElem? (i := 2) rfl)) (fun _ h9 => h9) rfl dX9_redo_15 ?_
    refine lv_iconst (v := 1) hx hb dX9_redo_18 (by decide) ?_
    have ttl_1 := tl_1
    refine lv_iadd hx hb dX9_redo_19 ?_
    refine lv_topi (fun x34 ex34 => ?_)
    have hx34 := r_add ex34 (by omega) (by omega)
    have ha35 : 1 ≤ x34.toInt ∧ x34.toInt ≤ 40 := by omega
    refine va_put (D := D) (cl := vwCl) (ci := 9) (v := .int x34) (ty := tyX9 45) (C := RX9) (T := TX9) (N := 64) hx hb hts in_X9_redo_X9 tyX9 tyX9_ok nmX9 hown hK hP hD hS 148 (wl_at (by decide) e33) rfl 45 (by decide) (hts (.fieldLink RX9 368 "EightReasonsModel" "acts" "I") (List.mem_of_getElem? (i := 2) rfl)) (fun _ h9 => h9) rfl (tyX9_ok 45 (by decide)) rfl rfl (Nat.le_of_ble_eq_true rfl) dX9_redo_20 (fun H locs hP hD hS => ?_)
    obtain ⟨f, hT, hP, hD, e36, hj37⟩ := stU (by decide) (TYm.p148 hT (show OKm ad cy c_text m_taped m_size m_faultKind m_faultPlace m_at m_end m_token m_number m_name c_points c_strands c_units c_told c_ruleFrom c_ruleTo c_code c_eWhat c_eSign m_bank m_rb m_codes m_within m_piled m_unitsInRule m_askStrand m_askTied m_thoughtClaim m_thoughtNeed m_thoughtAll c_roundOf x34 m_undone m_laid m_firstMove m_seens m_time m_waysNow m_fitting 148 _ from (show okX9 ad m_taped m_size m_faultKind m_faultPlace m_at m_end m_token m_number m_name m_bank m_rb m_codes m_within m_piled m_unitsInRule m_askStrand m_askTied m_thoughtClaim m_thoughtNeed m_thoughtAll x34 m_undone m_laid m_firstMove m_seens m_time m_waysNow m_fitting 148 _ from ⟨rfl, by omega, by omega, by omega, by omega, by omega, by omega, by omega, by omega, by omega, by omega, by omega, by omega, by omega, by omega, by omega⟩))) hP hD
    refine lv_aload_n hx hb dX9_redo_23 rfl (lv_at hl 0 rfl) ?_
    refine lv_dup hx hb dX9_redo_24 rfl ?_
    refine va_get (D := D) (cl := vwCl) (ci := 9) (v := .int m_undone) (C := RX9) (T := TX9) (N := 64) hx hb hts in_X9_redo_X9 hown hK hP 148 (wl_at (by decide) e36) rfl 46 (by decide) (hts (.fieldLink RX9 371 "EightReasonsModel" "undone" "I") (List.mem_of_getElem? (i := 1) rfl)) (fun _ h9 => h9) rfl dX9_redo_25 ?_
    have ha38 : 0 ≤ m_undone.toInt ∧ m_undone.toInt ≤ 40 := by omega
    refine lv_iconst (v := 1) hx hb dX9_redo_28 (by decide) ?_
    refine lv_isub hx hb dX9_redo_29 ?_
    refine lv_topi (fun x39 ex39 => ?_)
    have hx39 := r_sub ex39 (by omega) (by omega)
    refine va_put (D := D) (cl := vwCl) (ci := 9) (v := .int x39) (ty := tyX9 46) (C := RX9) (T := TX9) (N := 64) hx hb hts in_X9_redo_X9 tyX9 tyX9_ok nmX9 hown hK hP hD hS 148 (wl_at (by decide) e36) rfl 46 (by decide) (hts (.fieldLink RX9 371 "EightReasonsModel" "undone" "I") (List.mem_of_getElem? (i := 1) rfl)) (fun _ h9 => h9) rfl (tyX9_ok 46 (by decide)) rfl rfl (Nat.le_of_ble_eq_true rfl) dX9_redo_30 (fun H locs hP hD hS => ?_)
    obtain ⟨f, hT, hP, hD, e40, hj41⟩ := stU (by decide) (TYm.p148 hT (show OKm ad cy c_text m_taped m_size m_faultKind m_faultPlace m_at m_end m_token m_number m_name c_points c_strands c_units c_told c_ruleFrom c_ruleTo c_code c_eWhat c_eSign m_bank m_rb m_codes m_within m_piled m_unitsInRule m_askStrand m_askTied m_thoughtClaim m_thoughtNeed m_thoughtAll c_roundOf x34 x39 m_laid m_firstMove m_seens m_time m_waysNow m_fitting 148 _ from (show okX9 ad m_taped m_size m_faultKind m_faultPlace m_at m_end m_token m_number m_name m_bank m_rb m_codes m_within m_piled m_unitsInRule m_askStrand m_askTied m_thoughtClaim m_thoughtNeed m_thoughtAll x34 x39 m_laid m_firstMove m_seens m_time m_waysNow m_fitting 148 _ from ⟨rfl, by omega, by omega, by omega, by omega, by omega, by omega, by omega, by omega, by omega, by omega, by omega, by omega, by omega, by omega, by omega⟩))) hP hD
    refine lv_iconst (v := 1) hx hb dX9_redo_33 (by decide) ?_
    exact tI hx hb hr hlk rfl hP hS ⟨(Or.inl rfl), ⟨x34, x39, hT, by omega, by omega⟩⟩ dX9_redo_34
  · have kc17 := c_eq c17
    refine lv_iconst (v := 0) hx hb dX9_redo_7 (by decide) ?_
    exact tI hx hb hr hlk rfl hP hS ⟨(Or.inr rfl), ⟨m_acts, m_undone, hT, by omega, by omega⟩⟩ dX9_redo_8
