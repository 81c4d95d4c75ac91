set_option maxRecDepth 20000 in
theorem gX9_best_X9_isClaim : GoodIn wsX9_best (wsV RX9 390 RX9 yX9_isClaim wsX9_isClaim) := goodIn_app (goodIn_of _ (by decide +kernel)) ggX9_best_X9_isClaim
theorem dX9_best_0 : decode cX9_best 0 = .ok (.aload_n 0, 1) := by decide +kernel
theorem dX9_best_1 : decode cX9_best 1 = .ok (.iload_n 1, 1) := by decide +kernel
theorem dX9_best_2 : decode cX9_best 2 = .ok (.invokevirtual 390, 3) := by decide +kernel
theorem dX9_best_5 : decode cX9_best 5 = .ok (.ifCond .ne 5, 3) := by decide +kernel
theorem dX9_best_8 : decode cX9_best 8 = .ok (.iconst (-1), 1) := by decide +kernel
theorem dX9_best_9 : decode cX9_best 9 = .ok (.ireturn, 1) := by decide +kernel
theorem dX9_keepAct_0 : decode cX9_keepAct 0 = .ok (.aload_n 0, 1) := by decide +kernel
theorem dX9_keepAct_1 : decode cX9_keepAct 1 = .ok (.getfield 368, 3) := by decide +kernel
theorem dX9_keepAct_4 : decode cX9_keepAct 4 = .ok (.bipush 40, 2) := by decide +kernel
theorem dX9_keepAct_6 : decode cX9_keepAct 6 = .ok (.if_icmp .ne 43, 3) := by decide +kernel
theorem dX9_keepAct_49 : decode cX9_keepAct 49 = .ok (.iconst 0, 1) := by decide +kernel
theorem dX9_keepAct_50 : decode cX9_keepAct 50 = .ok (.istore_n 1, 1) := by decide +kernel
theorem dX9_keepAct_51 : decode cX9_keepAct 51 = .ok (.iload_n 1, 1) := by decide +kernel
theorem dX9_keepAct_52 : decode cX9_keepAct 52 = .ok (.bipush 16, 2) := by decide +kernel
theorem dX9_keepAct_54 : decode cX9_keepAct 54 = .ok (.if_icmp .ge 29, 3) := by decide +kernel
theorem dX9_keepAct_57 : decode cX9_keepAct 57 = .ok (.aload_n 0, 1) := by decide +kernel
theorem dX9_keepAct_58 : decode cX9_keepAct 58 = .ok (.getfield 94, 3) := by decide +kernel
theorem dX9_keepAct_61 : decode cX9_keepAct 61 = .ok (.bipush 16, 2) := by decide +kernel
theorem dX9_keepAct_63 : decode cX9_keepAct 63 = .ok (.aload_n 0, 1) := by decide +kernel
theorem dX9_keepAct_64 : decode cX9_keepAct 64 = .ok (.getfield 368, 3) := by decide +kernel
theorem dX9_keepAct_67 : decode cX9_keepAct 67 = .ok (.imul, 1) := by decide +kernel
theorem dX9_keepAct_68 : decode cX9_keepAct 68 = .ok (.iload_n 1, 1) := by decide +kernel
theorem dX9_keepAct_69 : decode cX9_keepAct 69 = .ok (.iadd, 1) := by decide +kernel
theorem dX9_keepAct_70 : decode cX9_keepAct 70 = .ok (.aload_n 0, 1) := by decide +kernel
theorem dX9_keepAct_71 : decode cX9_keepAct 71 = .ok (.getfield 76, 3) := by decide +kernel
theorem dX9_keepAct_74 : decode cX9_keepAct 74 = .ok (.iload_n 1, 1) := by decide +kernel
theorem dX9_keepAct_75 : decode cX9_keepAct 75 = .ok (.iaload, 1) := by decide +kernel
theorem dX9_keepAct_76 : decode cX9_keepAct 76 = .ok (.iastore, 1) := by decide +kernel
theorem dX9_keepAct_77 : decode cX9_keepAct 77 = .ok (.iinc 1 1, 3) := by decide +kernel
theorem dX9_keepAct_80 : decode cX9_keepAct 80 = .ok (.goto (-29), 3) := by decide +kernel
theorem dX9_keepAct_83 : decode cX9_keepAct 83 = .ok (.aload_n 0, 1) := by decide +kernel
theorem dX9_keepAct_84 : decode cX9_keepAct 84 = .ok (.dup, 1) := by decide +kernel
theorem dX9_keepAct_85 : decode cX9_keepAct 85 = .ok (.getfield 368, 3) := by decide +kernel
theorem dX9_keepAct_88 : decode cX9_keepAct 88 = .ok (.iconst 1, 1) := by decide +kernel
theorem dX9_keepAct_89 : decode cX9_keepAct 89 = .ok (.iadd, 1) := by decide +kernel
theorem dX9_keepAct_90 : decode cX9_keepAct 90 = .ok (.putfield 368, 3) := by decide +kernel
theorem dX9_keepAct_93 : decode cX9_keepAct 93 = .ok (.aload_n 0, 1) := by decide +kernel
theorem dX9_keepAct_94 : decode cX9_keepAct 94 = .ok (.iconst 0, 1) := by decide +kernel
theorem dX9_keepAct_95 : decode cX9_keepAct 95 = .ok (.putfield 371, 3) := by decide +kernel
theorem dX9_keepAct_98 : decode cX9_keepAct 98 = .ok (.return_, 1) := by decide +kernel
theorem dX9_turned_0 : decode cX9_turned 0 = .ok (.iload_n 3, 1) := by decide +kernel
theorem dX9_turned_1 : decode cX9_turned 1 = .ok (.ifCond .ne 5, 3) := by decide +kernel
theorem dX9_turned_4 : decode cX9_turned 4 = .ok (.iconst (-1), 1) := by decide +kernel
theorem dX9_turned_5 : decode cX9_turned 5 = .ok (.ireturn, 1) := by decide +kernel
set_option maxRecDepth 20000 in
theorem ggX9_cut_X9_isThread : GoodIn wsX9_cut wsX9_isThread := goodIn_r _ [6, 7, 8, 9, 5, 10, 11, 12, 13, 14, 15, 131, 132, 133, 134, 135, 136, 137, 138, 139, 140, 141, 142, 143, 144, 145, 146, 147, 148, 149, 150, 151, 152, 153, 154, 155, 156, 157, 158, 159, 160, 161, 162, 163, 164, 165, 166, 167, 168, 169, 170, 171, 172, 173, 174, 175, 176, 177, 178, 179, 180, 181, 182, 183, 184, 185, 186, 187, 188, 189, 190, 191, 192, 193, 194] (by decide +kernel) (by decide +kernel)
set_option maxRecDepth 20000 in
theorem gX9_cut_X9_isThread : GoodIn wsX9_cut (wsV RX9 408 RX9 yX9_isThread wsX9_isThread) := goodIn_app (goodIn_of _ (by decide +kernel)) ggX9_cut_X9_isThread
set_option maxRecDepth 20000 in
theorem ggX9_cut_X9_turned : GoodIn wsX9_cut wsX9_turned := goodIn_r _ [22, 1, 23, 24, 25, 5, 26, 27, 28, 29, 30, 31, 32, 33, 34, 35, 36, 37, 38, 39, 40, 41, 42, 43, 44, 45, 46, 47, 48, 49, 50, 12, 7, 8, 9, 10, 11, 16, 17, 18, 51, 52, 53, 54, 55, 56, 57, 58, 59, 60, 61, 62, 63, 64, 65, 66, 67, 68, 69, 70, 71, 72, 73, 74, 75, 76, 77, 78, 79, 80, 81, 82, 83, 84, 85, 86, 87, 88, 89, 90, 91, 92, 93, 94, 95, 96, 97, 98, 99, 100, 101, 102, 103, 104, 105, 106, 107, 108, 109, 110, 111, 112, 113, 114, 115, 116, 117, 118, 13, 14, 15, 119, 120, 121, 122, 123, 124, 125, 126, 127, 128, 129, 130, 131, 132, 133, 134, 135, 136, 137, 138, 139, 140, 141, 142, 143, 144, 145, 146, 147, 148, 149, 150, 151, 152, 153, 154, 155, 156, 157, 158, 159, 160, 161, 162, 163, 164, 165, 166, 167, 168, 169, 170, 171, 172, 173, 174, 175, 176, 177, 178, 179, 180, 181, 182, 183, 184, 185, 186, 187, 188, 189, 190, 191, 192, 193, 194] (by decide +kernel) (by decide +kernel)
set_option maxRecDepth 20000 in
theorem gX9_cut_X9_turned : GoodIn wsX9_cut (wsV RX9 420 RX9 yX9_turned wsX9_turned) := goodIn_app (goodIn_of _ (by decide +kernel)) ggX9_cut_X9_turned
theorem dX9_cut_0 : decode cX9_cut 0 = .ok (.aload_n 0, 1) := by decide +kernel
theorem dX9_cut_1 : decode cX9_cut 1 = .ok (.iconst 1, 1) := by decide +kernel
theorem dX9_cut_2 : decode cX9_cut 2 = .ok (.iload_n 1, 1) := by decide +kernel
theorem dX9_cut_3 : decode cX9_cut 3 = .ok (.aload_n 0, 1) := by decide +kernel
theorem dX9_cut_4 : decode cX9_cut 4 = .ok (.iload_n 1, 1) := by decide +kernel
theorem dX9_cut_5 : decode cX9_cut 5 = .ok (.invokevirtual 408, 3) := by decide +kernel
theorem dX9_cut_8 : decode cX9_cut 8 = .ok (.ifCond .eq 20, 3) := by decide +kernel
theorem dX9_cut_28 : decode cX9_cut 28 = .ok (.iconst 0, 1) := by decide +kernel
theorem dX9_cut_29 : decode cX9_cut 29 = .ok (.invokevirtual 420, 3) := by decide +kernel
theorem dX9_cut_32 : decode cX9_cut 32 = .ok (.ireturn, 1) := by decide +kernel
set_option maxRecDepth 20000 in
theorem ggX9_tie_X9_isThread : GoodIn wsX9_tie wsX9_isThread := goodIn_r _ [6, 7, 8, 9, 5, 10, 11, 12, 13, 14, 15, 131, 132, 133, 134, 135, 136, 137, 138, 139, 140, 141, 142, 143, 144, 145, 146, 147, 148, 149, 150, 151, 152, 153, 154, 155, 156, 157, 158, 159, 160, 161, 162, 163, 164, 165, 166, 167, 168, 169, 170, 171, 172, 173, 174, 175, 176, 177, 178, 179, 180, 181, 182, 183, 184, 185, 186, 187, 188, 189, 190, 191, 192, 193, 194] (by decide +kernel) (by decide +kernel)
set_option maxRecDepth 20000 in
theorem gX9_tie_X9_isThread : GoodIn wsX9_tie (wsV RX9 408 RX9 yX9_isThread wsX9_isThread) := goodIn_app (goodIn_of _ (by decide +kernel)) ggX9_tie_X9_isThread
set_option maxRecDepth 20000 in
theorem ggX9_tie_X9_turned : GoodIn wsX9_tie wsX9_turned := goodIn_r _ [22, 1, 23, 24, 25, 5, 26, 27, 28, 29, 30, 31, 32, 33, 34, 35, 36, 37, 38, 39, 40, 41, 42, 43, 44, 45, 46, 47, 48, 49, 50, 12, 7, 8, 9, 10, 11, 16, 17, 18, 51, 52, 53, 54, 55, 56, 57, 58, 59, 60, 61, 62, 63, 64, 65, 66, 67, 68, 69, 70, 71, 72, 73, 74, 75, 76, 77, 78, 79, 80, 81, 82, 83, 84, 85, 86, 87, 88, 89, 90, 91, 92, 93, 94, 95, 96, 97, 98, 99, 100, 101, 102, 103, 104, 105, 106, 107, 108, 109, 110, 111, 112, 113, 114, 115, 116, 117, 118, 13, 14, 15, 119, 120, 121, 122, 123, 124, 125, 126, 127, 128, 129, 130, 131, 132, 133, 134, 135, 136, 137, 138, 139, 140, 141, 142, 143, 144, 145, 146, 147, 148, 149, 150, 151, 152, 153, 154, 155, 156, 157, 158, 159, 160, 161, 162, 163, 164, 165, 166, 167, 168, 169, 170, 171, 172, 173, 174, 175, 176, 177, 178, 179, 180, 181, 182, 183, 184, 185, 186, 187, 188, 189, 190, 191, 192, 193, 194] (by decide +kernel) (by decide +kernel)
set_option maxRecDepth 20000 in
theorem gX9_tie_X9_turned : GoodIn wsX9_tie (wsV RX9 420 RX9 yX9_turned wsX9_turned) := goodIn_app (goodIn_of _ (by decide +kernel)) ggX9_tie_X9_turned
theorem dX9_tie_0 : decode cX9_tie 0 = .ok (.aload_n 0, 1) := by decide +kernel
theorem dX9_tie_1 : decode cX9_tie 1 = .ok (.iconst 1, 1) := by decide +kernel
theorem dX9_tie_2 : decode cX9_tie 2 = .ok (.iload_n 1, 1) := by decide +kernel
theorem dX9_tie_3 : decode cX9_tie 3 = .ok (.aload_n 0, 1) := by decide +kernel
theorem dX9_tie_4 : decode cX9_tie 4 = .ok (.iload_n 1, 1) := by decide +kernel
theorem dX9_tie_5 : decode cX9_tie 5 = .ok (.invokevirtual 408, 3) := by decide +kernel
theorem dX9_tie_8 : decode cX9_tie 8 = .ok (.ifCond .eq 20, 3) := by decide +kernel
theorem dX9_tie_28 : decode cX9_tie 28 = .ok (.iconst 0, 1) := by decide +kernel
theorem dX9_tie_29 : decode cX9_tie 29 = .ok (.invokevirtual 420, 3) := by decide +kernel
theorem dX9_tie_32 : decode cX9_tie 32 = .ok (.ireturn, 1) := by decide +kernel
set_option maxRecDepth 20000 in
theorem ggX9_strike_X9_isFact : GoodIn wsX9_strike wsX9_isFact := goodIn_r _ [6, 7, 8, 9, 10, 11, 5, 12, 13, 14, 15, 16, 17, 18, 19, 20, 127, 128, 129, 130, 131, 132, 133, 134, 135, 136, 137, 138, 139, 140, 141, 142, 143, 144, 145, 146, 147, 148, 149, 150, 151, 152, 153, 154, 155, 156, 157, 158, 159, 160, 161, 162, 163, 164, 165, 166, 167, 168, 169, 170, 171, 172, 173, 174, 175, 176, 177, 178, 179, 180, 181, 182, 183, 184, 185, 186, 187, 188, 189, 190] (by decide +kernel) (by decide +kernel)
set_option maxRecDepth 20000 in
theorem gX9_strike_X9_isFact : GoodIn wsX9_strike (wsV RX9 359 RX9 yX9_isFact wsX9_isFact) := goodIn_app (goodIn_of _ (by decide +kernel)) ggX9_strike_X9_isFact
set_option maxRecDepth 20000 in
theorem ggX9_strike_X9_turned : GoodIn wsX9_strike wsX9_turned := goodIn_r _ [27, 1, 28, 29, 30, 5, 31, 32, 33, 34, 35, 36, 37, 38, 39, 40, 41, 42, 43, 44, 45, 46, 47, 48, 49, 50, 51, 52, 53, 54, 55, 8, 56, 57, 58, 59, 60, 21, 22, 23, 61, 62, 63, 64, 65, 66, 67, 68, 69, 70, 71, 72, 73, 74, 75, 76, 77, 78, 79, 80, 81, 82, 83, 84, 85, 86, 87, 88, 89, 90, 91, 92, 93, 94, 95, 96, 97, 98, 99, 100, 101, 102, 103, 104, 7, 105, 106, 107, 108, 109, 110, 111, 112, 113, 114, 13, 14, 15, 16, 17, 2, 3, 4, 6, 9, 10, 11, 12, 18, 19, 20, 115, 116, 117, 118, 119, 120, 121, 122, 123, 124, 125, 126, 127, 128, 129, 130, 131, 132, 133, 134, 135, 136, 137, 138, 139, 140, 141, 142, 143, 144, 145, 146, 147, 148, 149, 150, 151, 152, 153, 154, 155, 156, 157, 158, 159, 160, 161, 162, 163, 164, 165, 166, 167, 168, 169, 170, 171, 172, 173, 174, 175, 176, 177, 178, 179, 180, 181, 182, 183, 184, 185, 186, 187, 188, 189, 190] (by decide +kernel) (by decide +kernel)
set_option maxRecDepth 20000 in
theorem gX9_strike_X9_turned : GoodIn wsX9_strike (wsV RX9 420 RX9 yX9_turned wsX9_turned) := goodIn_app (goodIn_of _ (by decide +kernel)) ggX9_strike_X9_turned
theorem dX9_strike_0 : decode cX9_strike 0 = .ok (.aload_n 0, 1) := by decide +kernel
theorem dX9_strike_1 : decode cX9_strike 1 = .ok (.iconst 0, 1) := by decide +kernel
theorem dX9_strike_2 : decode cX9_strike 2 = .ok (.iload_n 1, 1) := by decide +kernel
theorem dX9_strike_3 : decode cX9_strike 3 = .ok (.aload_n 0, 1) := by decide +kernel
theorem dX9_strike_4 : decode cX9_strike 4 = .ok (.iload_n 1, 1) := by decide +kernel
theorem dX9_strike_5 : decode cX9_strike 5 = .ok (.invokevirtual 359, 3) := by decide +kernel
theorem dX9_strike_8 : decode cX9_strike 8 = .ok (.ifCond .eq 20, 3) := by decide +kernel
theorem dX9_strike_28 : decode cX9_strike 28 = .ok (.iconst 0, 1) := by decide +kernel
theorem dX9_strike_29 : decode cX9_strike 29 = .ok (.invokevirtual 420, 3) := by decide +kernel
theorem dX9_strike_32 : decode cX9_strike 32 = .ok (.ireturn, 1) := by decide +kernel
set_option maxRecDepth 20000 in
theorem ggX9_prove_X9_isFact : GoodIn wsX9_prove wsX9_isFact := goodIn_r _ [6, 7, 8, 9, 10, 11, 5, 12, 13, 14, 15, 16, 17, 18, 19, 20, 127, 128, 129, 130, 131, 132, 133, 134, 135, 136, 137, 138, 139, 140, 141, 142, 143, 144, 145, 146, 147, 148, 149, 150, 151, 152, 153, 154, 155, 156, 157, 158, 159, 160, 161, 162, 163, 164, 165, 166, 167, 168, 169, 170, 171, 172, 173, 174, 175, 176, 177, 178, 179, 180, 181, 182, 183, 184, 185, 186, 187, 188, 189, 190] (by decide +kernel) (by decide +kernel)
set_option maxRecDepth 20000 in
theorem gX9_prove_X9_isFact : GoodIn wsX9_prove (wsV RX9 359 RX9 yX9_isFact wsX9_isFact) := goodIn_app (goodIn_of _ (by decide +kernel)) ggX9_prove_X9_isFact
set_option maxRecDepth 20000 in
theorem ggX9_prove_X9_turned : GoodIn wsX9_prove wsX9_turned := goodIn_r _ [27, 1, 28, 29, 30, 5, 31, 32, 33, 34, 35, 36, 37, 38, 39, 40, 41, 42, 43, 44, 45, 46, 47, 48, 49, 50, 51, 52, 53, 54, 55, 8, 56, 57, 58, 59, 60, 21, 22, 23, 61, 62, 63, 64, 65, 66, 67, 68, 69, 70, 71, 72, 73, 74, 75, 76, 77, 78, 79, 80, 81, 82, 83, 84, 85, 86, 87, 88, 89, 90, 91, 92, 93, 94, 95, 96, 97, 98, 99, 100, 101, 102, 103, 104, 7, 105, 106, 107, 108, 109, 110, 111, 112, 113, 114, 13, 14, 15, 16, 17, 2, 3, 4, 6, 9, 10, 11, 12, 18, 19, 20, 115, 116, 117, 118, 119, 120, 121, 122, 123, 124, 125, 126, 127, 128, 129, 130, 131, 132, 133, 134, 135, 136, 137, 138, 139, 140, 141, 142, 143, 144, 145, 146, 147, 148, 149, 150, 151, 152, 153, 154, 155, 156, 157, 158, 159, 160, 161, 162, 163, 164, 165, 166, 167, 168, 169, 170, 171, 172, 173, 174, 175, 176, 177, 178, 179, 180, 181, 182, 183, 184, 185, 186, 187, 188, 189, 190] (by decide +kernel) (by decide +kernel)
set_option maxRecDepth 20000 in
theorem gX9_prove_X9_turned : GoodIn wsX9_prove (wsV RX9 420 RX9 yX9_turned wsX9_turned) := goodIn_app (goodIn_of _ (by decide +kernel)) ggX9_prove_X9_turned
theorem dX9_prove_0 : decode cX9_prove 0 = .ok (.aload_n 0, 1) := by decide +kernel
theorem dX9_prove_1 : decode cX9_prove 1 = .ok (.iconst 0, 1) := by decide +kernel
theorem dX9_prove_2 : decode cX9_prove 2 = .ok (.iload_n 1, 1) := by decide +kernel
theorem dX9_prove_3 : decode cX9_prove 3 = .ok (.aload_n 0, 1) := by decide +kernel
theorem dX9_prove_4 : decode cX9_prove 4 = .ok (.iload_n 1, 1) := by decide +kernel
theorem dX9_prove_5 : decode cX9_prove 5 = .ok (.invokevirtual 359, 3) := by decide +kernel
theorem dX9_prove_8 : decode cX9_prove 8 = .ok (.ifCond .eq 20, 3) := by decide +kernel
theorem dX9_prove_28 : decode cX9_prove 28 = .ok (.iconst 0, 1) := by decide +kernel
theorem dX9_prove_29 : decode cX9_prove 29 = .ok (.invokevirtual 420, 3) := by decide +kernel
theorem dX9_prove_32 : decode cX9_prove 32 = .ok (.ireturn, 1) := by decide +kernel
set_option maxRecDepth 20000 in
theorem ggX9_tighten_X9_isThread : GoodIn wsX9_tighten wsX9_isThread := goodIn_r _ [6, 7, 8, 9, 5, 10, 11, 12, 13, 14, 15, 23, 24, 25, 26, 27, 28, 29, 30, 31, 32, 33, 34, 35, 36, 37, 38, 39, 40, 41, 42, 43, 44, 45, 46, 47, 48, 49, 50, 51, 52, 53, 54, 55, 56, 57, 58, 59, 60, 61, 62, 63, 64, 65, 66, 67, 68, 69, 70, 71, 72, 73, 74, 75, 76, 77, 78, 79, 80, 81, 82, 83, 84, 85, 86] (by decide +kernel) (by decide +kernel)
set_option maxRecDepth 20000 in
theorem gX9_tighten_X9_isThread : GoodIn wsX9_tighten (wsV RX9 408 RX9 yX9_isThread wsX9_isThread) := goodIn_app (goodIn_of _ (by decide +kernel)) ggX9_tighten_X9_isThread
theorem dX9_tighten_0 : decode cX9_tighten 0 = .ok (.aload_n 0, 1) := by decide +kernel
theorem dX9_tighten_1 : decode cX9_tighten 1 = .ok (.iload_n 1, 1) := by decide +kernel
theorem dX9_tighten_2 : decode cX9_tighten 2 = .ok (.invokevirtual 408, 3) := by decide +kernel
theorem dX9_tighten_5 : decode cX9_tighten 5 = .ok (.ifCond .eq 25, 3) := by decide +kernel
theorem dX9_tighten_30 : decode cX9_tighten 30 = .ok (.iconst (-1), 1) := by decide +kernel
theorem dX9_tighten_31 : decode cX9_tighten 31 = .ok (.ireturn, 1) := by decide +kernel
set_option maxRecDepth 20000 in
theorem ggX9_goDay_X9_threads : GoodIn wsX9_goDay wsX9_threads := goodIn_r _ [8, 9, 3, 13, 14, 15, 16, 17, 18, 19, 20, 21, 22, 23, 24, 25, 26, 27, 28, 29, 30, 31, 32, 33, 34, 35, 36, 37, 38, 39, 40, 41, 42, 43, 44, 45, 46, 47, 48, 49, 50, 51, 52, 53, 54, 55, 56, 57, 58, 59, 60, 61, 62, 63, 64, 65, 66, 67, 68, 69, 70, 71, 72, 73, 74, 75, 76] (by decide +kernel) (by decide +kernel)
set_option maxRecDepth 20000 in
theorem gX9_goDay_X9_threads : GoodIn wsX9_goDay (wsV RX9 350 RX9 yX9_threads wsX9_threads) := goodIn_app (goodIn_of _ (by decide +kernel)) ggX9_goDay_X9_threads
theorem dX9_goDay_0 : decode cX9_goDay 0 = .ok (.iconst 0, 1) := by decide +kernel
theorem dX9_goDay_1 : decode cX9_goDay 1 = .ok (.istore_n 1, 1) := by decide +kernel
theorem dX9_goDay_2 : decode cX9_goDay 2 = .ok (.iconst 0, 1) := by decide +kernel
theorem dX9_goDay_3 : decode cX9_goDay 3 = .ok (.istore_n 2, 1) := by decide +kernel
theorem dX9_goDay_4 : decode cX9_goDay 4 = .ok (.iload_n 2, 1) := by decide +kernel
theorem dX9_goDay_5 : decode cX9_goDay 5 = .ok (.aload_n 0, 1) := by decide +kernel
theorem dX9_goDay_6 : decode cX9_goDay 6 = .ok (.invokevirtual 350, 3) := by decide +kernel
theorem dX9_goDay_9 : decode cX9_goDay 9 = .ok (.if_icmp .ge 104, 3) := by decide +kernel
theorem dX9_goDay_113 : decode cX9_goDay 113 = .ok (.iload_n 1, 1) := by decide +kernel
theorem dX9_goDay_114 : decode cX9_goDay 114 = .ok (.ireturn, 1) := by decide +kernel
set_option maxRecDepth 20000 in
theorem ggX9_day_X9_keepAct : GoodIn wsX9_day wsX9_keepAct := goodIn_r _ [6, 7, 8, 1, 9, 24, 25, 26, 27, 28, 29, 30, 31, 32, 33, 34, 35, 36, 37, 38, 39, 40, 41, 42, 43, 44, 45, 46, 47, 48, 49, 50, 51, 52, 53, 54, 55, 56, 57, 58, 59, 60, 61, 62, 63, 64, 65, 66, 67, 68, 69, 70, 71, 72, 73, 74, 75, 76, 77, 78, 79, 80, 81, 82, 83, 84, 85, 86, 87] (by decide +kernel) (by decide +kernel)
set_option maxRecDepth 20000 in
theorem gX9_day_X9_keepAct : GoodIn wsX9_day (wsV RX9 414 RX9 yX9_keepAct wsX9_keepAct) := goodIn_app (goodIn_of _ (by decide +kernel)) ggX9_day_X9_keepAct
set_option maxRecDepth 20000 in
theorem ggX9_day_X9_goDay : GoodIn wsX9_day wsX9_goDay := goodIn_r _ [13, 1, 14, 15, 16, 17, 18, 5, 19, 20, 21, 22, 23, 24, 25, 26, 27, 28, 29, 30, 31, 32, 33, 34, 35, 36, 37, 38, 39, 40, 41, 42, 43, 44, 45, 46, 47, 48, 49, 50, 51, 52, 53, 54, 55, 56, 57, 58, 59, 60, 61, 62, 63, 64, 65, 66, 67, 68, 69, 70, 71, 72, 73, 74, 75, 76, 77, 78, 79, 80, 81, 82, 83, 84, 85, 86, 87] (by decide +kernel) (by decide +kernel)
set_option maxRecDepth 20000 in
theorem gX9_day_X9_goDay : GoodIn wsX9_day (wsV RX9 424 RX9 yX9_goDay wsX9_goDay) := goodIn_app (goodIn_of _ (by decide +kernel)) ggX9_day_X9_goDay
theorem dX9_day_0 : decode cX9_day 0 = .ok (.aload_n 0, 1) := by decide +kernel
theorem dX9_day_1 : decode cX9_day 1 = .ok (.getfield 76, 3) := by decide +kernel
theorem dX9_day_4 : decode cX9_day 4 = .ok (.bipush 14, 2) := by decide +kernel
theorem dX9_day_6 : decode cX9_day 6 = .ok (.iaload, 1) := by decide +kernel
theorem dX9_day_7 : decode cX9_day 7 = .ok (.sipush 999, 3) := by decide +kernel
theorem dX9_day_10 : decode cX9_day 10 = .ok (.if_icmp .ne 5, 3) := by decide +kernel
theorem dX9_day_15 : decode cX9_day 15 = .ok (.aload_n 0, 1) := by decide +kernel
theorem dX9_day_16 : decode cX9_day 16 = .ok (.invokevirtual 414, 3) := by decide +kernel
theorem dX9_day_19 : decode cX9_day 19 = .ok (.aload_n 0, 1) := by decide +kernel
theorem dX9_day_20 : decode cX9_day 20 = .ok (.getfield 76, 3) := by decide +kernel
theorem dX9_day_23 : decode cX9_day 23 = .ok (.bipush 14, 2) := by decide +kernel
theorem dX9_day_25 : decode cX9_day 25 = .ok (.dup2, 1) := by decide +kernel
theorem dX9_day_26 : decode cX9_day 26 = .ok (.iaload, 1) := by decide +kernel
theorem dX9_day_27 : decode cX9_day 27 = .ok (.iconst 1, 1) := by decide +kernel
theorem dX9_day_28 : decode cX9_day 28 = .ok (.iadd, 1) := by decide +kernel
theorem dX9_day_29 : decode cX9_day 29 = .ok (.iastore, 1) := by decide +kernel
theorem dX9_day_30 : decode cX9_day 30 = .ok (.aload_n 0, 1) := by decide +kernel
theorem dX9_day_31 : decode cX9_day 31 = .ok (.invokevirtual 424, 3) := by decide +kernel
theorem dX9_day_34 : decode cX9_day 34 = .ok (.ireturn, 1) := by decide +kernel
theorem dX9_undo_0 : decode cX9_undo 0 = .ok (.aload_n 0, 1) := by decide +kernel
theorem dX9_undo_1 : decode cX9_undo 1 = .ok (.getfield 368, 3) := by decide +kernel
theorem dX9_undo_4 : decode cX9_undo 4 = .ok (.ifCond .ne 5, 3) := by decide +kernel
theorem dX9_undo_7 : decode cX9_undo 7 = .ok (.iconst 0, 1) := by decide +kernel
theorem dX9_undo_8 : decode cX9_undo 8 = .ok (.ireturn, 1) := by decide +kernel
theorem dX9_redo_0 : decode cX9_redo 0 = .ok (.aload_n 0, 1) := by decide +kernel
theorem dX9_redo_1 : decode cX9_redo 1 = .ok (.getfield 371, 3) := by decide +kernel
theorem dX9_redo_4 : decode cX9_redo 4 = .ok (.ifCond .ne 5, 3) := by decide +kernel
theorem dX9_redo_7 : decode cX9_redo 7 = .ok (.iconst 0, 1) := by decide +kernel
theorem dX9_redo_8 : decode cX9_redo 8 = .ok (.ireturn, 1) := by decide +kernel
set_option maxRecDepth 20000 in
theorem ggX9_fall_X9_isClaim : GoodIn wsX9_fall wsX9_isClaim := goodIn_r _ [6, 7, 8, 9, 10, 11, 5, 12, 13, 14, 15, 16, 17, 18, 19, 20, 117, 118, 119, 120, 121, 122, 123, 124, 125, 126, 127, 128, 129, 130, 131, 132, 133, 134, 135, 136, 137, 138, 139, 140, 141, 142, 143, 144, 145, 146, 147, 148, 149, 150, 151, 152, 153, 154, 155, 156, 157, 158, 159, 160, 161, 162, 163, 164, 165, 166, 167, 168, 169, 170, 171, 172, 173, 174, 175, 176, 177, 178, 179, 180] (by decide +kernel) (by decide +kernel)
set_option maxRecDepth 20000 in
theorem gX9_fall_X9_isClaim : GoodIn wsX9_fall (wsV RX9 390 RX9 yX9_isClaim wsX9_isClaim) := goodIn_app (goodIn_of _ (by decide +kernel)) ggX9_fall_X9_isClaim
theorem dX9_fall_0 : decode cX9_fall 0 = .ok (.aload_n 0, 1) := by decide +kernel
theorem dX9_fall_1 : decode cX9_fall 1 = .ok (.iload_n 1, 1) := by decide +kernel
theorem dX9_fall_2 : decode cX9_fall 2 = .ok (.invokevirtual 390, 3) := by decide +kernel
theorem dX9_fall_5 : decode cX9_fall 5 = .ok (.ifCond .ne 5, 3) := by decide +kernel
theorem dX9_fall_8 : decode cX9_fall 8 = .ok (.iconst (-1), 1) := by decide +kernel
theorem dX9_fall_9 : decode cX9_fall 9 = .ok (.ireturn, 1) := by decide +kernel
set_option maxRecDepth 20000 in
theorem ggX9_lies_X9_isIn : GoodIn wsX9_lies wsX9_isIn := goodIn_r _ [6] (by decide +kernel) (by decide +kernel)
set_option maxRecDepth 20000 in
theorem gX9_lies_X9_isIn : GoodIn wsX9_lies (va_wsS RX9 346 yX9_isIn wsX9_isIn) := goodIn_app (goodIn_of _ (by decide +kernel)) ggX9_lies_X9_isIn
theorem dX9_lies_0 : decode cX9_lies 0 = .ok (.iload_n 1, 1) := by decide +kernel
theorem dX9_lies_1 : decode cX9_lies 1 = .ok (.iconst 0, 1) := by decide +kernel
theorem dX9_lies_2 : decode cX9_lies 2 = .ok (.aload_n 0, 1) := by decide +kernel
theorem dX9_lies_3 : decode cX9_lies 3 = .ok (.getfield 377, 3) := by decide +kernel
theorem dX9_lies_6 : decode cX9_lies 6 = .ok (.iconst 1, 1) := by decide +kernel
theorem dX9_lies_7 : decode cX9_lies 7 = .ok (.isub, 1) := by decide +kernel
theorem dX9_lies_8 : decode cX9_lies 8 = .ok (.invokestatic 346, 3) := by decide +kernel
theorem dX9_lies_11 : decode cX9_lies 11 = .ok (.ifCond .eq 12, 3) := by decide +kernel
theorem dX9_lies_23 : decode cX9_lies 23 = .ok (.iconst (-1), 1) := by decide +kernel
theorem dX9_lies_24 : decode cX9_lies 24 = .ok (.ireturn, 1) := by decide +kernel
theorem dX9_toldOf_0 : decode cX9_toldOf 0 = .ok (.iload_n 0, 1) := by decide +kernel
theorem dX9_toldOf_1 : decode cX9_toldOf 1 = .ok (.ifCond .ge 7, 3) := by decide +kernel
theorem dX9_toldOf_4 : decode cX9_toldOf 4 = .ok (.iconst (-1), 1) := by decide +kernel
theorem dX9_toldOf_5 : decode cX9_toldOf 5 = .ok (.goto 15, 3) := by decide +kernel
theorem dX9_toldOf_20 : decode cX9_toldOf 20 = .ok (.ireturn, 1) := by decide +kernel
set_option maxRecDepth 20000 in
theorem ggX9_topple_X9_isClaim : GoodIn wsX9_topple wsX9_isClaim := goodIn_r _ [5, 6, 7, 8, 9, 10, 4, 11, 12, 13, 14, 15, 16, 17, 18, 19, 122, 123, 124, 125, 126, 127, 128, 129, 130, 131, 132, 133, 134, 135, 136, 137, 138, 139, 140, 141, 142, 143, 144, 145, 146, 147, 148, 149, 150, 151, 152, 153, 154, 155, 156, 157, 158, 159, 160, 161, 162, 163, 164, 165, 166, 167, 168, 169, 170, 171, 172, 173, 174, 175, 176, 177, 178, 179, 180, 181, 182, 183, 184, 185] (by decide +kernel) (by decide +kernel)
set_option maxRecDepth 20000 in
theorem gX9_topple_X9_isClaim : GoodIn wsX9_topple (wsV RX9 390 RX9 yX9_isClaim wsX9_isClaim) := goodIn_app (goodIn_of _ (by decide +kernel)) ggX9_topple_X9_isClaim
theorem dX9_topple_0 : decode cX9_topple 0 = .ok (.aload_n 0, 1) := by decide +kernel
theorem dX9_topple_1 : decode cX9_topple 1 = .ok (.iload_n 1, 1) := by decide +kernel
theorem dX9_topple_2 : decode cX9_topple 2 = .ok (.invokevirtual 390, 3) := by decide +kernel
theorem dX9_topple_5 : decode cX9_topple 5 = .ok (.ifCond .eq 24, 3) := by decide +kernel
theorem dX9_topple_29 : decode cX9_topple 29 = .ok (.iconst (-1), 1) := by decide +kernel
theorem dX9_topple_30 : decode cX9_topple 30 = .ok (.ireturn, 1) := by decide +kernel
set_option maxRecDepth 20000 in
theorem ggX9_prop_X9_isClaim : GoodIn wsX9_prop wsX9_isClaim := goodIn_r _ [5, 6, 7, 8, 9, 10, 4, 11, 12, 13, 14, 15, 16, 17, 18, 19, 126, 127, 128, 129, 130, 131, 132, 133, 134, 135, 136, 137, 138, 139, 140, 141, 142, 143, 144, 145, 146, 147, 148, 149, 150, 151, 152, 153, 154, 155, 156, 157, 158, 159, 160, 161, 162, 163, 164, 165, 166, 167, 168, 169, 170, 171, 172, 173, 174, 175, 176, 177, 178, 179, 180, 181, 182, 183, 184, 185, 186, 187, 188, 189] (by decide +kernel) (by decide +kernel)
set_option maxRecDepth 20000 in
theorem gX9_prop_X9_isClaim : GoodIn wsX9_prop (wsV RX9 390 RX9 yX9_isClaim wsX9_isClaim) := goodIn_app (goodIn_of _ (by decide +kernel)) ggX9_prop_X9_isClaim
theorem dX9_prop_0 : decode cX9_prop 0 = .ok (.aload_n 0, 1) := by decide +kernel
theorem dX9_prop_1 : decode cX9_prop 1 = .ok (.iload_n 1, 1) := by decide +kernel
theorem dX9_prop_2 : decode cX9_prop 2 = .ok (.invokevirtual 390, 3) := by decide +kernel
theorem dX9_prop_5 : decode cX9_prop 5 = .ok (.ifCond .eq 24, 3) := by decide +kernel
theorem dX9_prop_29 : decode cX9_prop 29 = .ok (.iconst (-1), 1) := by decide +kernel
theorem dX9_prop_30 : decode cX9_prop 30 = .ok (.ireturn, 1) := by decide +kernel
set_option maxRecDepth 20000 in
theorem ggX9_mend_X9_isClaim : GoodIn wsX9_mend wsX9_isClaim := goodIn_r _ [6, 7, 8, 9, 10, 11, 5, 12, 13, 14, 15, 16, 17, 18, 19, 20, 118, 119, 120, 121, 122, 123, 124, 125, 126, 127, 128, 129, 130, 131, 132, 133, 134, 135, 136, 137, 138, 139, 140, 141, 142, 143, 144, 145, 146, 147, 148, 149, 150, 151, 152, 153, 154, 155, 156, 157, 158, 159, 160, 161, 162, 163, 164, 165, 166, 167, 168, 169, 170, 171, 172, 173, 174, 175, 176, 177, 178, 179, 180, 181] (by decide +kernel) (by decide +kernel)
set_option maxRecDepth 20000 in
theorem gX9_mend_X9_isClaim : GoodIn wsX9_mend (wsV RX9 390 RX9 yX9_isClaim wsX9_isClaim) := goodIn_app (goodIn_of _ (by decide +kernel)) ggX9_mend_X9_isClaim
theorem dX9_mend_0 : decode cX9_mend 0 = .ok (.aload_n 0, 1) := by decide +kernel
theorem dX9_mend_1 : decode cX9_mend 1 = .ok (.iload_n 1, 1) := by decide +kernel
theorem dX9_mend_2 : decode cX9_mend 2 = .ok (.invokevirtual 390, 3) := by decide +kernel
theorem dX9_mend_5 : decode cX9_mend 5 = .ok (.ifCond .eq 12, 3) := by decide +kernel
theorem dX9_mend_17 : decode cX9_mend 17 = .ok (.iconst (-1), 1) := by decide +kernel
theorem dX9_mend_18 : decode cX9_mend 18 = .ok (.ireturn, 1) := by decide +kernel
set_option maxRecDepth 20000 in
theorem ggX9_pivots_X9_isClaim : GoodIn wsX9_pivots wsX9_isClaim := goodIn_r _ [6, 7, 8, 9, 10, 11, 5, 12, 13, 14, 15, 16, 17, 18, 19, 20, 116, 117, 118, 119, 120, 121, 122, 123, 124, 125, 126, 127, 128, 129, 130, 131, 132, 133, 134, 135, 136, 137, 138, 139, 140, 141, 142, 143, 144, 145, 146, 147, 148, 149, 150, 151, 152, 153, 154, 155, 156, 157, 158, 159, 160, 161, 162, 163, 164, 165, 166, 167, 168, 169, 170, 171, 172, 173, 174, 175, 176, 177, 178, 179] (by decide +kernel) (by decide +kernel)
set_option maxRecDepth 20000 in
theorem gX9_pivots_X9_isClaim : GoodIn wsX9_pivots (wsV RX9 390 RX9 yX9_isClaim wsX9_isClaim) := goodIn_app (goodIn_of _ (by decide +kernel)) ggX9_pivots_X9_isClaim
theorem dX9_pivots_0 : decode cX9_pivots 0 = .ok (.aload_n 0, 1) := by decide +kernel
theorem dX9_pivots_1 : decode cX9_pivots 1 = .ok (.iload_n 1, 1) := by decide +kernel
theorem dX9_pivots_2 : decode cX9_pivots 2 = .ok (.invokevirtual 390, 3) := by decide +kernel
theorem dX9_pivots_5 : decode cX9_pivots 5 = .ok (.ifCond .ne 5, 3) := by decide +kernel
theorem dX9_pivots_8 : decode cX9_pivots 8 = .ok (.iconst (-1), 1) := by decide +kernel
theorem dX9_pivots_9 : decode cX9_pivots 9 = .ok (.ireturn, 1) := by decide +kernel
set_option maxRecDepth 20000 in
theorem ggX9_perils_X9_isClaim : GoodIn wsX9_perils wsX9_isClaim := goodIn_r _ [6, 7, 8, 9, 10, 11, 5, 12, 13, 14, 15, 16, 17, 18, 19, 20, 116, 117, 118, 119, 120, 121, 122, 123, 124, 125, 126, 127, 128, 129, 130, 131, 132, 133, 134, 135, 136, 137, 138, 139, 140, 141, 142, 143, 144, 145, 146, 147, 148, 149, 150, 151, 152, 153, 154, 155, 156, 157, 158, 159, 160, 161, 162, 163, 164, 165, 166, 167, 168, 169, 170, 171, 172, 173, 174, 175, 176, 177, 178, 179] (by decide +kernel) (by decide +kernel)
set_option maxRecDepth 20000 in
theorem gX9_perils_X9_isClaim : GoodIn wsX9_perils (wsV RX9 390 RX9 yX9_isClaim wsX9_isClaim) := goodIn_app (goodIn_of _ (by decide +kernel)) ggX9_perils_X9_isClaim
theorem dX9_perils_0 : decode cX9_perils 0 = .ok (.aload_n 0, 1) := by decide +kernel
theorem dX9_perils_1 : decode cX9_perils 1 = .ok (.iload_n 1, 1) := by decide +kernel
theorem dX9_perils_2 : decode cX9_perils 2 = .ok (.invokevirtual 390, 3) := by decide +kernel
theorem dX9_perils_5 : decode cX9_perils 5 = .ok (.ifCond .eq 23, 3) := by decide +kernel
theorem dX9_perils_28 : decode cX9_perils 28 = .ok (.iconst (-1), 1) := by decide +kernel
theorem dX9_perils_29 : decode cX9_perils 29 = .ok (.ireturn, 1) := by decide +kernel
set_option maxRecDepth 20000 in
theorem ggX9_power_X9_isClaim : GoodIn wsX9_power wsX9_isClaim := goodIn_r _ [6, 7, 8, 9, 10, 11, 5, 12, 13, 14, 15, 16, 17, 18, 19, 20, 116, 117, 118, 119, 120, 121, 122, 123, 124, 125, 126, 127, 128, 129, 130, 131, 132, 133, 134, 135, 136, 137, 138, 139, 140, 141, 142, 143, 144, 145, 146, 147, 148, 149, 150, 151, 152, 153, 154, 155, 156, 157, 158, 159, 160, 161, 162, 163, 164, 165, 166, 167, 168, 169, 170, 171, 172, 173, 174, 175, 176, 177, 178, 179] (by decide +kernel) (by decide +kernel)
set_option maxRecDepth 20000 in
theorem gX9_power_X9_isClaim : GoodIn wsX9_power (wsV RX9 390 RX9 yX9_isClaim wsX9_isClaim) := goodIn_app (goodIn_of _ (by decide +kernel)) ggX9_power_X9_isClaim
theorem dX9_power_0 : decode cX9_power 0 = .ok (.aload_n 0, 1) := by decide +kernel
theorem dX9_power_1 : decode cX9_power 1 = .ok (.iload_n 1, 1) := by decide +kernel
theorem dX9_power_2 : decode cX9_power 2 = .ok (.invokevirtual 390, 3) := by decide +kernel
theorem dX9_power_5 : decode cX9_power 5 = .ok (.ifCond .eq 24, 3) := by decide +kernel
theorem dX9_power_29 : decode cX9_power 29 = .ok (.iconst (-1), 1) := by decide +kernel
theorem dX9_power_30 : decode cX9_power 30 = .ok (.ireturn, 1) := by decide +kernel
set_option maxRecDepth 20000 in
theorem ggX9_spare_X9_standNow : GoodIn wsX9_spare wsX9_standNow := goodIn_r _ [6, 1, 7, 8, 9, 5, 10, 11, 12, 13, 14, 15, 16, 17, 18, 19, 20, 21, 22, 23, 24, 25, 26, 27, 28, 29, 30, 31, 32, 33, 34, 35, 36, 37, 38, 39, 40, 41, 42, 43, 44, 45, 46, 47, 48, 49, 50, 51, 52, 53, 54, 55, 56, 57, 58, 59, 60, 61, 62, 63, 64, 65, 66, 67, 68, 69, 70, 71, 72, 73, 74, 75, 76, 77, 78, 79, 80, 81, 82, 83, 84, 85, 86, 87, 88, 89, 90, 91, 92, 93, 94, 95, 96, 97, 98, 99, 100, 101, 102, 103, 104, 105, 106, 107, 112, 113, 114, 115, 116, 117, 118, 119, 120, 121, 122, 123, 124, 125, 126, 127, 128, 129, 130, 131, 132, 133, 134, 135, 136, 137, 138, 139, 140, 141, 142, 143, 144, 145, 146, 147, 148, 149, 150, 151, 152, 153, 154, 155, 156, 157, 158, 159, 160, 161, 162, 163, 164, 165, 166, 167, 168, 169, 170, 171, 172, 173, 174, 175] (by decide +kernel) (by decide +kernel)
set_option maxRecDepth 20000 in
theorem gX9_spare_X9_standNow : GoodIn wsX9_spare (wsV RX9 402 RX9 yX9_standNow wsX9_standNow) := goodIn_app (goodIn_of _ (by decide +kernel)) ggX9_spare_X9_standNow
set_option maxRecDepth 20000 in
theorem ggX9_spare_X9_threads : GoodIn wsX9_spare wsX9_threads := goodIn_r _ [24, 25, 20, 112, 113, 114, 115, 116, 117, 118, 119, 120, 121, 122, 123, 124, 125, 126, 127, 128, 129, 130, 131, 132, 133, 134, 135, 136, 137, 138, 139, 140, 141, 142, 143, 144, 145, 146, 147, 148, 149, 150, 151, 152, 153, 154, 155, 156, 157, 158, 159, 160, 161, 162, 163, 164, 165, 166, 167, 168, 169, 170, 171, 172, 173, 174, 175] (by decide +kernel) (by decide +kernel)
set_option maxRecDepth 20000 in
theorem gX9_spare_X9_threads : GoodIn wsX9_spare (wsV RX9 350 RX9 yX9_threads wsX9_threads) := goodIn_app (goodIn_of _ (by decide +kernel)) ggX9_spare_X9_threads
theorem dX9_spare_0 : decode cX9_spare 0 = .ok (.aload_n 0, 1) := by decide +kernel
theorem dX9_spare_1 : decode cX9_spare 1 = .ok (.invokevirtual 402, 3) := by decide +kernel
theorem dX9_spare_4 : decode cX9_spare 4 = .ok (.istore_n 1, 1) := by decide +kernel
theorem dX9_spare_5 : decode cX9_spare 5 = .ok (.iconst 0, 1) := by decide +kernel
theorem dX9_spare_6 : decode cX9_spare 6 = .ok (.istore_n 2, 1) := by decide +kernel
theorem dX9_spare_7 : decode cX9_spare 7 = .ok (.iconst 0, 1) := by decide +kernel
theorem dX9_spare_8 : decode cX9_spare 8 = .ok (.istore_n 3, 1) := by decide +kernel
theorem dX9_spare_9 : decode cX9_spare 9 = .ok (.iload_n 3, 1) := by decide +kernel
theorem dX9_spare_10 : decode cX9_spare 10 = .ok (.aload_n 0, 1) := by decide +kernel
theorem dX9_spare_11 : decode cX9_spare 11 = .ok (.invokevirtual 350, 3) := by decide +kernel
theorem dX9_spare_14 : decode cX9_spare 14 = .ok (.if_icmp .ge 48, 3) := by decide +kernel
theorem dX9_spare_62 : decode cX9_spare 62 = .ok (.iload_n 2, 1) := by decide +kernel
theorem dX9_spare_63 : decode cX9_spare 63 = .ok (.ireturn, 1) := by decide +kernel
set_option maxRecDepth 20000 in
theorem ggX9_brings_X9_isThread : GoodIn wsX9_brings wsX9_isThread := goodIn_r _ [6, 7, 8, 9, 5, 10, 11, 12, 13, 14, 15, 116, 117, 118, 119, 120, 121, 122, 123, 124, 125, 126, 127, 128, 129, 130, 131, 132, 133, 134, 135, 136, 137, 138, 139, 140, 141, 142, 143, 144, 145, 146, 147, 148, 149, 150, 151, 152, 153, 154, 155, 156, 157, 158, 159, 160, 161, 162, 163, 164, 165, 166, 167, 168, 169, 170, 171, 172, 173, 174, 175, 176, 177, 178, 179] (by decide +kernel) (by decide +kernel)
set_option maxRecDepth 20000 in
theorem gX9_brings_X9_isThread : GoodIn wsX9_brings (wsV RX9 408 RX9 yX9_isThread wsX9_isThread) := goodIn_app (goodIn_of _ (by decide +kernel)) ggX9_brings_X9_isThread
theorem dX9_brings_0 : decode cX9_brings 0 = .ok (.aload_n 0, 1) := by decide +kernel
theorem dX9_brings_1 : decode cX9_brings 1 = .ok (.iload_n 1, 1) := by decide +kernel
theorem dX9_brings_2 : decode cX9_brings 2 = .ok (.invokevirtual 408, 3) := by decide +kernel
theorem dX9_brings_5 : decode cX9_brings 5 = .ok (.ifCond .eq 16, 3) := by decide +kernel
theorem dX9_brings_21 : decode cX9_brings 21 = .ok (.iconst (-1), 1) := by decide +kernel
theorem dX9_brings_22 : decode cX9_brings 22 = .ok (.ireturn, 1) := by decide +kernel
set_option maxRecDepth 20000 in
theorem ggX9_with_X9_threads : GoodIn wsX9_with wsX9_threads := goodIn_r _ [5, 6, 7, 108, 109, 110, 111, 112, 113, 114, 115, 116, 117, 118, 119, 120, 121, 122, 123, 124, 125, 126, 127, 128, 129, 130, 131, 132, 133, 134, 135, 136, 137, 138, 139, 140, 141, 142, 143, 144, 145, 146, 147, 148, 149, 150, 151, 152, 153, 154, 155, 156, 157, 158, 159, 160, 161, 162, 163, 164, 165, 166, 167, 168, 169, 170, 171] (by decide +kernel) (by decide +kernel)
set_option maxRecDepth 20000 in
theorem gX9_with_X9_threads : GoodIn wsX9_with (wsV RX9 350 RX9 yX9_threads wsX9_threads) := goodIn_app (goodIn_of _ (by decide +kernel)) ggX9_with_X9_threads
set_option maxRecDepth 20000 in
theorem ggX9_with_X9_isIn : GoodIn wsX9_with wsX9_isIn := goodIn_r _ [10] (by decide +kernel) (by decide +kernel)
set_option maxRecDepth 20000 in
theorem gX9_with_X9_isIn : GoodIn wsX9_with (va_wsS RX9 346 yX9_isIn wsX9_isIn) := goodIn_app (goodIn_of _ (by decide +kernel)) ggX9_with_X9_isIn
set_option maxRecDepth 20000 in
theorem ggX9_with_X9_standWith : GoodIn wsX9_with wsX9_standWith := goodIn_r _ [14, 15, 16, 17, 18, 4, 19, 20, 21, 22, 23, 24, 25, 26, 27, 28, 7, 1, 2, 3, 5, 6, 29, 30, 31, 32, 33, 34, 35, 36, 37, 38, 39, 40, 41, 42, 43, 44, 45, 46, 47, 48, 49, 50, 51, 52, 53, 54, 55, 56, 57, 58, 59, 60, 61, 62, 63, 64, 65, 66, 67, 68, 69, 70, 71, 72, 73, 74, 75, 76, 77, 78, 79, 80, 81, 82, 83, 84, 85, 86, 87, 88, 89, 90, 91, 92, 93, 94, 95, 96, 97, 98, 99, 8, 9, 10, 100, 101, 102, 103, 104, 105, 106, 107, 108, 109, 110, 111, 112, 113, 114, 115, 116, 117, 118, 119, 120, 121, 122, 123, 124, 125, 126, 127, 128, 129, 130, 131, 132, 133, 134, 135, 136, 137, 138, 139, 140, 141, 142, 143, 144, 145, 146, 147, 148, 149, 150, 151, 152, 153, 154, 155, 156, 157, 158, 159, 160, 161, 162, 163, 164, 165, 166, 167, 168, 169, 170, 171] (by decide +kernel) (by decide +kernel)
set_option maxRecDepth 20000 in
theorem gX9_with_X9_standWith : GoodIn wsX9_with (wsV RX9 399 RX9 yX9_standWith wsX9_standWith) := goodIn_app (goodIn_of _ (by decide +kernel)) ggX9_with_X9_standWith
theorem dX9_with_0 : decode cX9_with 0 = .ok (.iload_n 1, 1) := by decide +kernel
theorem dX9_with_1 : decode cX9_with 1 = .ok (.iconst 0, 1) := by decide +kernel
theorem dX9_with_2 : decode cX9_with 2 = .ok (.iconst 1, 1) := by decide +kernel
theorem dX9_with_3 : decode cX9_with 3 = .ok (.aload_n 0, 1) := by decide +kernel
theorem dX9_with_4 : decode cX9_with 4 = .ok (.invokevirtual 350, 3) := by decide +kernel
theorem dX9_with_7 : decode cX9_with 7 = .ok (.ishl, 1) := by decide +kernel
theorem dX9_with_8 : decode cX9_with 8 = .ok (.iconst 1, 1) := by decide +kernel
theorem dX9_with_9 : decode cX9_with 9 = .ok (.isub, 1) := by decide +kernel
theorem dX9_with_10 : decode cX9_with 10 = .ok (.invokestatic 346, 3) := by decide +kernel
theorem dX9_with_13 : decode cX9_with 13 = .ok (.ifCond .eq 11, 3) := by decide +kernel
theorem dX9_with_16 : decode cX9_with 16 = .ok (.aload_n 0, 1) := by decide +kernel
theorem dX9_with_17 : decode cX9_with 17 = .ok (.iload_n 1, 1) := by decide +kernel
theorem dX9_with_18 : decode cX9_with 18 = .ok (.invokevirtual 399, 3) := by decide +kernel
theorem dX9_with_21 : decode cX9_with 21 = .ok (.goto 4, 3) := by decide +kernel
theorem dX9_with_24 : decode cX9_with 24 = .ok (.iconst (-1), 1) := by decide +kernel
theorem dX9_with_25 : decode cX9_with 25 = .ok (.ireturn, 1) := by decide +kernel
set_option maxRecDepth 20000 in
theorem ggX9_shock_X9_isIn : GoodIn wsX9_shock wsX9_isIn := goodIn_r _ [5] (by decide +kernel) (by decide +kernel)
set_option maxRecDepth 20000 in
theorem gX9_shock_X9_isIn : GoodIn wsX9_shock (va_wsS RX9 346 yX9_isIn wsX9_isIn) := goodIn_app (goodIn_of _ (by decide +kernel)) ggX9_shock_X9_isIn
set_option maxRecDepth 20000 in
theorem ggX9_shock_X9_keepNow : GoodIn wsX9_shock wsX9_keepNow := goodIn_r _ [9, 10, 1, 125, 126, 127, 128, 129, 130, 131, 132, 133, 134, 135, 136, 137, 138, 139, 140, 141, 142, 143, 144, 145, 146, 147, 148, 149, 150, 151, 152, 153, 154, 155, 156, 157, 158, 159, 160, 161, 162, 163, 164, 165, 166, 167, 168, 169, 170, 171, 172, 173, 174, 175, 176, 177, 178, 179, 180, 181, 182, 183, 184, 185, 186, 187, 188] (by decide +kernel) (by decide +kernel)
set_option maxRecDepth 20000 in
theorem gX9_shock_X9_keepNow : GoodIn wsX9_shock (wsV RX9 430 RX9 yX9_keepNow wsX9_keepNow) := goodIn_app (goodIn_of _ (by decide +kernel)) ggX9_shock_X9_keepNow
set_option maxRecDepth 20000 in
theorem ggX9_shock_X9_threads : GoodIn wsX9_shock wsX9_threads := goodIn_r _ [14, 15, 16, 125, 126, 127, 128, 129, 130, 131, 132, 133, 134, 135, 136, 137, 138, 139, 140, 141, 142, 143, 144, 145, 146, 147, 148, 149, 150, 151, 152, 153, 154, 155, 156, 157, 158, 159, 160, 161, 162, 163, 164, 165, 166, 167, 168, 169, 170, 171, 172, 173, 174, 175, 176, 177, 178, 179, 180, 181, 182, 183, 184, 185, 186, 187, 188] (by decide +kernel) (by decide +kernel)
set_option maxRecDepth 20000 in
theorem gX9_shock_X9_threads : GoodIn wsX9_shock (wsV RX9 350 RX9 yX9_threads wsX9_threads) := goodIn_app (goodIn_of _ (by decide +kernel)) ggX9_shock_X9_threads
set_option maxRecDepth 20000 in
theorem ggX9_shock_X9_claimsNow : GoodIn wsX9_shock wsX9_claimsNow := goodIn_r _ [23, 24, 25, 26, 4, 27, 1, 28, 29, 30, 31, 32, 33, 34, 35, 36, 37, 38, 39, 40, 16, 11, 12, 13, 14, 15, 41, 42, 43, 44, 45, 46, 47, 48, 49, 50, 51, 52, 53, 54, 55, 56, 57, 58, 59, 60, 61, 62, 63, 64, 65, 66, 67, 68, 69, 70, 71, 72, 73, 74, 75, 76, 77, 78, 79, 80, 81, 82, 83, 84, 85, 86, 87, 88, 89, 90, 91, 17, 18, 19, 92, 93, 94, 95, 96, 97, 98, 99, 100, 101, 102, 103, 104, 105, 106, 107, 108, 2, 3, 5, 109, 110, 111, 112, 113, 114, 115, 116, 117, 118, 119, 120, 125, 126, 127, 128, 129, 130, 131, 132, 133, 134, 135, 136, 137, 138, 139, 140, 141, 142, 143, 144, 145, 146, 147, 148, 149, 150, 151, 152, 153, 154, 155, 156, 157, 158, 159, 160, 161, 162, 163, 164, 165, 166, 167, 168, 169, 170, 171, 172, 173, 174, 175, 176, 177, 178, 179, 180, 181, 182, 183, 184, 185, 186, 187, 188] (by decide +kernel) (by decide +kernel)
set_option maxRecDepth 20000 in
theorem gX9_shock_X9_claimsNow : GoodIn wsX9_shock (wsV RX9 417 RX9 yX9_claimsNow wsX9_claimsNow) := goodIn_app (goodIn_of _ (by decide +kernel)) ggX9_shock_X9_claimsNow
set_option maxRecDepth 20000 in
theorem ggX9_shock_X9_bringBack : GoodIn wsX9_shock wsX9_bringBack := goodIn_r _ [124, 1, 10, 125, 126, 127, 128, 129, 130, 131, 132, 133, 134, 135, 136, 137, 138, 139, 140, 141, 142, 143, 144, 145, 146, 147, 148, 149, 150, 151, 152, 153, 154, 155, 156, 157, 158, 159, 160, 161, 162, 163, 164, 165, 166, 167, 168, 169, 170, 171, 172, 173, 174, 175, 176, 177, 178, 179, 180, 181, 182, 183, 184, 185, 186, 187, 188] (by decide +kernel) (by decide +kernel)
set_option maxRecDepth 20000 in
theorem gX9_shock_X9_bringBack : GoodIn wsX9_shock (wsV RX9 433 RX9 yX9_bringBack wsX9_bringBack) := goodIn_app (goodIn_of _ (by decide +kernel)) ggX9_shock_X9_bringBack
theorem dX9_shock_0 : decode cX9_shock 0 = .ok (.iload_n 1, 1) := by decide +kernel
theorem dX9_shock_1 : decode cX9_shock 1 = .ok (.iconst 0, 1) := by decide +kernel
theorem dX9_shock_2 : decode cX9_shock 2 = .ok (.bipush 20, 2) := by decide +kernel
theorem dX9_shock_4 : decode cX9_shock 4 = .ok (.invokestatic 346, 3) := by decide +kernel
theorem dX9_shock_7 : decode cX9_shock 7 = .ok (.ifCond .ne 5, 3) := by decide +kernel
theorem dX9_shock_10 : decode cX9_shock 10 = .ok (.iconst (-1), 1) := by decide +kernel
theorem dX9_shock_11 : decode cX9_shock 11 = .ok (.ireturn, 1) := by decide +kernel
theorem dX9_shock_12 : decode cX9_shock 12 = .ok (.aload_n 0, 1) := by decide +kernel
theorem dX9_shock_13 : decode cX9_shock 13 = .ok (.invokevirtual 430, 3) := by decide +kernel
theorem dX9_shock_16 : decode cX9_shock 16 = .ok (.iconst 0, 1) := by decide +kernel
theorem dX9_shock_17 : decode cX9_shock 17 = .ok (.istore_n 2, 1) := by decide +kernel
theorem dX9_shock_18 : decode cX9_shock 18 = .ok (.iload_n 2, 1) := by decide +kernel
theorem dX9_shock_19 : decode cX9_shock 19 = .ok (.aload_n 0, 1) := by decide +kernel
theorem dX9_shock_20 : decode cX9_shock 20 = .ok (.invokevirtual 350, 3) := by decide +kernel
theorem dX9_shock_23 : decode cX9_shock 23 = .ok (.if_icmp .ge 33, 3) := by decide +kernel
theorem dX9_shock_56 : decode cX9_shock 56 = .ok (.aload_n 0, 1) := by decide +kernel
theorem dX9_shock_57 : decode cX9_shock 57 = .ok (.invokevirtual 417, 3) := by decide +kernel
theorem dX9_shock_60 : decode cX9_shock 60 = .ok (.istore_n 2, 1) := by decide +kernel
theorem dX9_shock_61 : decode cX9_shock 61 = .ok (.aload_n 0, 1) := by decide +kernel
theorem dX9_shock_62 : decode cX9_shock 62 = .ok (.invokevirtual 433, 3) := by decide +kernel
theorem dX9_shock_65 : decode cX9_shock 65 = .ok (.iload_n 2, 1) := by decide +kernel
theorem dX9_shock_66 : decode cX9_shock 66 = .ok (.ireturn, 1) := by decide +kernel
set_option maxRecDepth 20000 in
theorem ggX9_law_X9_isIn : GoodIn wsX9_law wsX9_isIn := goodIn_r _ [5] (by decide +kernel) (by decide +kernel)
set_option maxRecDepth 20000 in
theorem gX9_law_X9_isIn : GoodIn wsX9_law (va_wsS RX9 346 yX9_isIn wsX9_isIn) := goodIn_app (goodIn_of _ (by decide +kernel)) ggX9_law_X9_isIn
set_option maxRecDepth 20000 in
theorem ggX9_law_X9_claimsNow : GoodIn wsX9_law wsX9_claimsNow := goodIn_r _ [9, 10, 11, 12, 4, 13, 14, 15, 16, 17, 18, 19, 20, 21, 22, 23, 24, 25, 26, 27, 28, 29, 30, 31, 32, 33, 34, 35, 36, 37, 38, 39, 40, 41, 42, 43, 44, 45, 46, 47, 48, 49, 50, 51, 52, 53, 54, 55, 56, 57, 58, 59, 60, 61, 62, 63, 64, 65, 66, 67, 68, 69, 70, 71, 72, 73, 74, 75, 76, 77, 1, 78, 79, 80, 81, 82, 83, 84, 85, 86, 87, 88, 89, 90, 91, 92, 93, 94, 95, 96, 97, 98, 99, 100, 101, 102, 103, 2, 3, 5, 104, 105, 106, 107, 108, 109, 110, 111, 112, 113, 114, 115, 116, 117, 118, 119, 120, 121, 122, 123, 124, 125, 126, 127, 128, 129, 130, 131, 132, 133, 134, 135, 136, 137, 138, 139, 140, 141, 142, 143, 144, 145, 146, 147, 148, 149, 150, 151, 152, 153, 154, 155, 156, 157, 158, 159, 160, 161, 162, 163, 164, 165, 166, 167, 168, 169, 170, 171, 172, 173, 174, 175, 176, 177, 178, 179] (by decide +kernel) (by decide +kernel)
set_option maxRecDepth 20000 in
theorem gX9_law_X9_claimsNow : GoodIn wsX9_law (wsV RX9 417 RX9 yX9_claimsNow wsX9_claimsNow) := goodIn_app (goodIn_of _ (by decide +kernel)) ggX9_law_X9_claimsNow
theorem dX9_law_0 : decode cX9_law 0 = .ok (.iload_n 1, 1) := by decide +kernel
theorem dX9_law_1 : decode cX9_law 1 = .ok (.iconst 0, 1) := by decide +kernel
theorem dX9_law_2 : decode cX9_law 2 = .ok (.bipush 99, 2) := by decide +kernel
theorem dX9_law_4 : decode cX9_law 4 = .ok (.invokestatic 346, 3) := by decide +kernel
theorem dX9_law_7 : decode cX9_law 7 = .ok (.ifCond .ne 5, 3) := by decide +kernel
theorem dX9_law_10 : decode cX9_law 10 = .ok (.iconst (-1), 1) := by decide +kernel
theorem dX9_law_11 : decode cX9_law 11 = .ok (.ireturn, 1) := by decide +kernel
theorem dX9_law_12 : decode cX9_law 12 = .ok (.aload_n 0, 1) := by decide +kernel
theorem dX9_law_13 : decode cX9_law 13 = .ok (.iload_n 1, 1) := by decide +kernel
theorem dX9_law_14 : decode cX9_law 14 = .ok (.putfield 85, 3) := by decide +kernel
theorem dX9_law_17 : decode cX9_law 17 = .ok (.aload_n 0, 1) := by decide +kernel
theorem dX9_law_18 : decode cX9_law 18 = .ok (.invokevirtual 417, 3) := by decide +kernel
theorem dX9_law_21 : decode cX9_law 21 = .ok (.istore_n 2, 1) := by decide +kernel
theorem dX9_law_22 : decode cX9_law 22 = .ok (.aload_n 0, 1) := by decide +kernel
theorem dX9_law_23 : decode cX9_law 23 = .ok (.iconst (-1), 1) := by decide +kernel
theorem dX9_law_24 : decode cX9_law 24 = .ok (.putfield 85, 3) := by decide +kernel
theorem dX9_law_27 : decode cX9_law 27 = .ok (.iload_n 2, 1) := by decide +kernel
theorem dX9_law_28 : decode cX9_law 28 = .ok (.ireturn, 1) := by decide +kernel
set_option maxRecDepth 20000 in
theorem ggX9_worth_X9_isClaim : GoodIn wsX9_worth wsX9_isClaim := goodIn_r _ [7, 8, 9, 10, 11, 12, 6, 13, 14, 15, 16, 17, 18, 19, 20, 21, 108, 109, 110, 111, 112, 113, 114, 115, 116, 117, 118, 119, 120, 121, 122, 123, 124, 125, 126, 127, 128, 129, 130, 131, 132, 133, 134, 135, 136, 137, 138, 139, 140, 141, 142, 143, 144, 145, 146, 147, 148, 149, 150, 151, 152, 153, 154, 155, 156, 157, 158, 159, 160, 161, 162, 163, 164, 165, 166, 167, 168, 169, 170, 171] (by decide +kernel) (by decide +kernel)
set_option maxRecDepth 20000 in
theorem gX9_worth_X9_isClaim : GoodIn wsX9_worth (wsV RX9 390 RX9 yX9_isClaim wsX9_isClaim) := goodIn_app (goodIn_of _ (by decide +kernel)) ggX9_worth_X9_isClaim
theorem dX9_worth_0 : decode cX9_worth 0 = .ok (.aload_n 0, 1) := by decide +kernel
theorem dX9_worth_1 : decode cX9_worth 1 = .ok (.iload_n 1, 1) := by decide +kernel
theorem dX9_worth_2 : decode cX9_worth 2 = .ok (.invokevirtual 390, 3) := by decide +kernel
theorem dX9_worth_5 : decode cX9_worth 5 = .ok (.ifCond .ne 5, 3) := by decide +kernel
theorem dX9_worth_8 : decode cX9_worth 8 = .ok (.iconst (-1), 1) := by decide +kernel
theorem dX9_worth_9 : decode cX9_worth 9 = .ok (.ireturn, 1) := by decide +kernel
set_option maxRecDepth 20000 in
theorem ggX9_proof_X9_isClaim : GoodIn wsX9_proof wsX9_isClaim := goodIn_r _ [8, 9, 10, 11, 12, 13, 7, 14, 15, 16, 17, 18, 19, 20, 21, 22, 125, 126, 127, 128, 129, 130, 131, 132, 133, 134, 135, 136, 137, 138, 139, 140, 141, 142, 143, 144, 145, 146, 147, 148, 149, 150, 151, 152, 153, 154, 155, 156, 157, 158, 159, 160, 161, 162, 163, 164, 165, 166, 167, 168, 169, 170, 171, 172, 173, 174, 175, 176, 177, 178, 179, 180, 181, 182, 183, 184, 185, 186, 187, 188] (by decide +kernel) (by decide +kernel)
set_option maxRecDepth 20000 in
theorem gX9_proof_X9_isClaim : GoodIn wsX9_proof (wsV RX9 390 RX9 yX9_isClaim wsX9_isClaim) := goodIn_app (goodIn_of _ (by decide +kernel)) ggX9_proof_X9_isClaim
theorem dX9_proof_0 : decode cX9_proof 0 = .ok (.aload_n 0, 1) := by decide +kernel
theorem dX9_proof_1 : decode cX9_proof 1 = .ok (.iconst 0, 1) := by decide +kernel
theorem dX9_proof_2 : decode cX9_proof 2 = .ok (.putfield 377, 3) := by decide +kernel
theorem dX9_proof_5 : decode cX9_proof 5 = .ok (.aload_n 0, 1) := by decide +kernel
theorem dX9_proof_6 : decode cX9_proof 6 = .ok (.iload_n 1, 1) := by decide +kernel
theorem dX9_proof_7 : decode cX9_proof 7 = .ok (.invokevirtual 390, 3) := by decide +kernel
theorem dX9_proof_10 : decode cX9_proof 10 = .ok (.ifCond .ne 5, 3) := by decide +kernel
theorem dX9_proof_13 : decode cX9_proof 13 = .ok (.iconst (-1), 1) := by decide +kernel
theorem dX9_proof_14 : decode cX9_proof 14 = .ok (.ireturn, 1) := by decide +kernel
set_option maxRecDepth 20000 in
theorem ggX9_ring_X9_isIn : GoodIn wsX9_ring wsX9_isIn := goodIn_r _ [5] (by decide +kernel) (by decide +kernel)
set_option maxRecDepth 20000 in
theorem gX9_ring_X9_isIn : GoodIn wsX9_ring (va_wsS RX9 346 yX9_isIn wsX9_isIn) := goodIn_app (goodIn_of _ (by decide +kernel)) ggX9_ring_X9_isIn
set_option maxRecDepth 20000 in
theorem ggX9_ring_X9_layWeights : GoodIn wsX9_ring wsX9_layWeights := goodIn_r _ [9, 10, 11, 1, 12, 13, 14, 15, 16, 17, 4, 18, 19, 20, 21, 22, 23, 24, 25, 26, 27, 28, 29, 30, 31, 32, 33, 34, 35, 36, 37, 38, 39, 40, 41, 42, 43, 44, 45, 46, 47, 48, 49, 50, 51, 52, 53, 54, 55, 56, 57, 58, 59, 60, 61, 62, 63, 64, 65, 66, 67, 68, 69, 70, 71, 72, 73, 109, 110, 111, 112, 113, 114, 115, 116, 117, 118, 119, 120, 121, 122, 123, 124, 125, 126, 127, 128, 129, 130, 131, 132, 133, 134, 135, 136, 137, 138, 139, 140, 141, 142, 143, 144, 145, 146, 147, 148, 149, 150, 151, 152, 153, 154, 155, 156, 157, 158, 159, 160, 161, 162, 163, 164, 165, 166, 167, 168, 169, 170, 171, 172] (by decide +kernel) (by decide +kernel)
set_option maxRecDepth 20000 in
theorem gX9_ring_X9_layWeights : GoodIn wsX9_ring (wsV RX9 386 RX9 yX9_layWeights wsX9_layWeights) := goodIn_app (goodIn_of _ (by decide +kernel)) ggX9_ring_X9_layWeights
set_option maxRecDepth 20000 in
theorem ggX9_ring_X9_claims : GoodIn wsX9_ring wsX9_claims := goodIn_r _ [77, 78, 79, 80, 4, 81, 82, 14, 83, 84, 85, 86, 87, 88, 89, 90, 67, 91, 92, 93, 94, 2, 3, 5, 109, 110, 111, 112, 113, 114, 115, 116, 117, 118, 119, 120, 121, 122, 123, 124, 125, 126, 127, 128, 129, 130, 131, 132, 133, 134, 135, 136, 137, 138, 139, 140, 141, 142, 143, 144, 145, 146, 147, 148, 149, 150, 151, 152, 153, 154, 155, 156, 157, 158, 159, 160, 161, 162, 163, 164, 165, 166, 167, 168, 169, 170, 171, 172] (by decide +kernel) (by decide +kernel)
set_option maxRecDepth 20000 in
theorem gX9_ring_X9_claims : GoodIn wsX9_ring (wsV RX9 405 RX9 yX9_claims wsX9_claims) := goodIn_app (goodIn_of _ (by decide +kernel)) ggX9_ring_X9_claims
set_option maxRecDepth 20000 in
theorem ggX9_ring_X9_toldOf : GoodIn wsX9_ring wsX9_toldOf := goodIn_r _ [108, 48, 49, 4, 50] (by decide +kernel) (by decide +kernel)
set_option maxRecDepth 20000 in
theorem gX9_ring_X9_toldOf : GoodIn wsX9_ring (va_wsS RX9 445 yX9_toldOf wsX9_toldOf) := goodIn_app (goodIn_of _ (by decide +kernel)) ggX9_ring_X9_toldOf
theorem dX9_ring_0 : decode cX9_ring 0 = .ok (.iload_n 1, 1) := by decide +kernel
theorem dX9_ring_1 : decode cX9_ring 1 = .ok (.iconst 0, 1) := by decide +kernel
theorem dX9_ring_2 : decode cX9_ring 2 = .ok (.iconst 1, 1) := by decide +kernel
theorem dX9_ring_3 : decode cX9_ring 3 = .ok (.invokestatic 346, 3) := by decide +kernel
theorem dX9_ring_6 : decode cX9_ring 6 = .ok (.ifCond .ne 5, 3) := by decide +kernel
theorem dX9_ring_9 : decode cX9_ring 9 = .ok (.iconst (-1), 1) := by decide +kernel
theorem dX9_ring_10 : decode cX9_ring 10 = .ok (.ireturn, 1) := by decide +kernel
theorem dX9_ring_11 : decode cX9_ring 11 = .ok (.aload_n 0, 1) := by decide +kernel
theorem dX9_ring_12 : decode cX9_ring 12 = .ok (.aload_n 0, 1) := by decide +kernel
theorem dX9_ring_13 : decode cX9_ring 13 = .ok (.getfield 76, 3) := by decide +kernel
theorem dX9_ring_16 : decode cX9_ring 16 = .ok (.iconst 1, 1) := by decide +kernel
theorem dX9_ring_17 : decode cX9_ring 17 = .ok (.iaload, 1) := by decide +kernel
theorem dX9_ring_18 : decode cX9_ring 18 = .ok (.invokevirtual 386, 3) := by decide +kernel
theorem dX9_ring_21 : decode cX9_ring 21 = .ok (.iconst (-1), 1) := by decide +kernel
theorem dX9_ring_22 : decode cX9_ring 22 = .ok (.istore_n 2, 1) := by decide +kernel
theorem dX9_ring_23 : decode cX9_ring 23 = .ok (.iconst 1, 1) := by decide +kernel
theorem dX9_ring_24 : decode cX9_ring 24 = .ok (.istore_n 3, 1) := by decide +kernel
theorem dX9_ring_25 : decode cX9_ring 25 = .ok (.iload_n 3, 1) := by decide +kernel
theorem dX9_ring_26 : decode cX9_ring 26 = .ok (.aload_n 0, 1) := by decide +kernel
theorem dX9_ring_27 : decode cX9_ring 27 = .ok (.invokevirtual 405, 3) := by decide +kernel
theorem dX9_ring_30 : decode cX9_ring 30 = .ok (.if_icmp .gt 38, 3) := by decide +kernel
theorem dX9_ring_68 : decode cX9_ring 68 = .ok (.iload_n 2, 1) := by decide +kernel
theorem dX9_ring_69 : decode cX9_ring 69 = .ok (.iload_n 1, 1) := by decide +kernel
theorem dX9_ring_70 : decode cX9_ring 70 = .ok (.invokestatic 445, 3) := by decide +kernel
theorem dX9_ring_73 : decode cX9_ring 73 = .ok (.ireturn, 1) := by decide +kernel
set_option maxRecDepth 20000 in
theorem ggX9_roots_X9_isClaim : GoodIn wsX9_roots wsX9_isClaim := goodIn_r _ [5, 6, 7, 8, 9, 10, 4, 11, 12, 13, 14, 15, 16, 17, 18, 19, 51, 52, 53, 54, 55, 56, 57, 58, 59, 60, 61, 62, 63, 64, 65, 66, 67, 68, 69, 70, 71, 72, 73, 74, 75, 76, 77, 78, 79, 80, 81, 82, 83, 84, 85, 86, 87, 88, 89, 90, 91, 92, 93, 94, 95, 96, 97, 98, 99, 100, 101, 102, 103, 104, 105, 106, 107, 108, 109, 110, 111, 112, 113, 114] (by decide +kernel) (by decide +kernel)
set_option maxRecDepth 20000 in
theorem gX9_roots_X9_isClaim : GoodIn wsX9_roots (wsV RX9 390 RX9 yX9_isClaim wsX9_isClaim) := goodIn_app (goodIn_of _ (by decide +kernel)) ggX9_roots_X9_isClaim
theorem dX9_roots_0 : decode cX9_roots 0 = .ok (.aload_n 0, 1) := by decide +kernel
theorem dX9_roots_1 : decode cX9_roots 1 = .ok (.iload_n 1, 1) := by decide +kernel
theorem dX9_roots_2 : decode cX9_roots 2 = .ok (.invokevirtual 390, 3) := by decide +kernel
theorem dX9_roots_5 : decode cX9_roots 5 = .ok (.ifCond .ne 5, 3) := by decide +kernel
theorem dX9_roots_8 : decode cX9_roots 8 = .ok (.iconst (-1), 1) := by decide +kernel
theorem dX9_roots_9 : decode cX9_roots 9 = .ok (.ireturn, 1) := by decide +kernel
set_option maxRecDepth 20000 in
theorem ggX9_path_X9_isPoint : GoodIn wsX9_path wsX9_isPoint := goodIn_r _ [5, 6, 7, 8, 4, 9, 10, 11, 12, 13, 14, 43, 44, 45, 46, 47, 48, 49, 50, 51, 52, 53, 54, 55, 56, 57, 58, 59, 60, 61, 62, 63, 64, 65, 66, 67, 68, 69, 70, 71, 72, 73, 74, 75, 76, 77, 78, 79, 80, 81, 82, 83, 84, 85, 86, 87, 88, 89, 90, 91, 92, 93, 94, 95, 96, 97, 98, 99, 100, 101, 102, 103, 104, 105, 106] (by decide +kernel) (by decide +kernel)
set_option maxRecDepth 20000 in
theorem gX9_path_X9_isPoint : GoodIn wsX9_path (wsV RX9 353 RX9 yX9_isPoint wsX9_isPoint) := goodIn_app (goodIn_of _ (by decide +kernel)) ggX9_path_X9_isPoint
theorem dX9_path_0 : decode cX9_path 0 = .ok (.aload_n 0, 1) := by decide +kernel
theorem dX9_path_1 : decode cX9_path 1 = .ok (.iload_n 1, 1) := by decide +kernel
theorem dX9_path_2 : decode cX9_path 2 = .ok (.invokevirtual 353, 3) := by decide +kernel
theorem dX9_path_5 : decode cX9_path 5 = .ok (.ifCond .eq 11, 3) := by decide +kernel
theorem dX9_path_16 : decode cX9_path 16 = .ok (.iconst (-1), 1) := by decide +kernel
theorem dX9_path_17 : decode cX9_path 17 = .ok (.ireturn, 1) := by decide +kernel
set_option maxRecDepth 20000 in
theorem ggX9_keystone_X9_isIn : GoodIn wsX9_keystone wsX9_isIn := goodIn_r _ [6] (by decide +kernel) (by decide +kernel)
set_option maxRecDepth 20000 in
theorem gX9_keystone_X9_isIn : GoodIn wsX9_keystone (va_wsS RX9 346 yX9_isIn wsX9_isIn) := goodIn_app (goodIn_of _ (by decide +kernel)) ggX9_keystone_X9_isIn
set_option maxRecDepth 20000 in
theorem ggX9_keystone_X9_many : GoodIn wsX9_keystone wsX9_many := goodIn_r _ [10, 11, 12, 113, 114, 115, 116, 117, 118, 119, 120, 121, 122, 123, 124, 125, 126, 127, 128, 129, 130, 131, 132, 133, 134, 135, 136, 137, 138, 139, 140, 141, 142, 143, 144, 145, 146, 147, 148, 149, 150, 151, 152, 153, 154, 155, 156, 157, 158, 159, 160, 161, 162, 163, 164, 165, 166, 167, 168, 169, 170, 171, 172, 173, 174, 175, 176] (by decide +kernel) (by decide +kernel)
set_option maxRecDepth 20000 in
theorem gX9_keystone_X9_many : GoodIn wsX9_keystone (wsV RX9 343 RX9 yX9_many wsX9_many) := goodIn_app (goodIn_of _ (by decide +kernel)) ggX9_keystone_X9_many
theorem dX9_keystone_0 : decode cX9_keystone 0 = .ok (.iload_n 1, 1) := by decide +kernel
theorem dX9_keystone_1 : decode cX9_keystone 1 = .ok (.iconst 0, 1) := by decide +kernel
theorem dX9_keystone_2 : decode cX9_keystone 2 = .ok (.iconst 1, 1) := by decide +kernel
theorem dX9_keystone_3 : decode cX9_keystone 3 = .ok (.invokestatic 346, 3) := by decide +kernel
theorem dX9_keystone_6 : decode cX9_keystone 6 = .ok (.ifCond .ne 5, 3) := by decide +kernel
theorem dX9_keystone_9 : decode cX9_keystone 9 = .ok (.iconst (-1), 1) := by decide +kernel
theorem dX9_keystone_10 : decode cX9_keystone 10 = .ok (.ireturn, 1) := by decide +kernel
theorem dX9_keystone_11 : decode cX9_keystone 11 = .ok (.iconst (-1), 1) := by decide +kernel
theorem dX9_keystone_12 : decode cX9_keystone 12 = .ok (.istore_n 2, 1) := by decide +kernel
theorem dX9_keystone_13 : decode cX9_keystone 13 = .ok (.ldc_w 457, 3) := by decide +kernel
theorem dX9_keystone_16 : decode cX9_keystone 16 = .ok (.istore_n 3, 1) := by decide +kernel
theorem dX9_keystone_17 : decode cX9_keystone 17 = .ok (.iconst 0, 1) := by decide +kernel
theorem dX9_keystone_18 : decode cX9_keystone 18 = .ok (.istore 4, 2) := by decide +kernel
theorem dX9_keystone_20 : decode cX9_keystone 20 = .ok (.iload 4, 2) := by decide +kernel
theorem dX9_keystone_22 : decode cX9_keystone 22 = .ok (.aload_n 0, 1) := by decide +kernel
theorem dX9_keystone_23 : decode cX9_keystone 23 = .ok (.invokevirtual 343, 3) := by decide +kernel
theorem dX9_keystone_26 : decode cX9_keystone 26 = .ok (.if_icmp .ge 61, 3) := by decide +kernel
theorem dX9_keystone_87 : decode cX9_keystone 87 = .ok (.iload_n 2, 1) := by decide +kernel
theorem dX9_keystone_88 : decode cX9_keystone 88 = .ok (.ifCond .ge 7, 3) := by decide +kernel
theorem dX9_keystone_91 : decode cX9_keystone 91 = .ok (.iconst (-1), 1) := by decide +kernel
theorem dX9_keystone_92 : decode cX9_keystone 92 = .ok (.goto 12, 3) := by decide +kernel
theorem dX9_keystone_104 : decode cX9_keystone 104 = .ok (.ireturn, 1) := by decide +kernel
set_option maxRecDepth 20000 in
theorem ggX9_holds_X9_isFact : GoodIn wsX9_holds wsX9_isFact := goodIn_r _ [6, 7, 8, 9, 10, 11, 5, 12, 13, 14, 15, 16, 17, 18, 19, 20, 116, 117, 118, 119, 120, 121, 122, 123, 124, 125, 126, 127, 128, 129, 130, 131, 132, 133, 134, 135, 136, 137, 138, 139, 140, 141, 142, 143, 144, 145, 146, 147, 148, 149, 150, 151, 152, 153, 154, 155, 156, 157, 158, 159, 160, 161, 162, 163, 164, 165, 166, 167, 168, 169, 170, 171, 172, 173, 174, 175, 176, 177, 178, 179] (by decide +kernel) (by decide +kernel)
set_option maxRecDepth 20000 in
theorem gX9_holds_X9_isFact : GoodIn wsX9_holds (wsV RX9 359 RX9 yX9_isFact wsX9_isFact) := goodIn_app (goodIn_of _ (by decide +kernel)) ggX9_holds_X9_isFact
theorem dX9_holds_0 : decode cX9_holds 0 = .ok (.aload_n 0, 1) := by decide +kernel
theorem dX9_holds_1 : decode cX9_holds 1 = .ok (.iload_n 1, 1) := by decide +kernel
theorem dX9_holds_2 : decode cX9_holds 2 = .ok (.invokevirtual 359, 3) := by decide +kernel
theorem dX9_holds_5 : decode cX9_holds 5 = .ok (.ifCond .eq 16, 3) := by decide +kernel
theorem dX9_holds_21 : decode cX9_holds 21 = .ok (.iconst (-1), 1) := by decide +kernel
theorem dX9_holds_22 : decode cX9_holds 22 = .ok (.ireturn, 1) := by decide +kernel
set_option maxRecDepth 20000 in
theorem ggX9_moot_X9_isClaim : GoodIn wsX9_moot wsX9_isClaim := goodIn_r _ [7, 8, 9, 10, 11, 12, 6, 13, 14, 15, 16, 17, 18, 19, 20, 21, 129, 130, 131, 132, 133, 134, 135, 136, 137, 138, 139, 140, 141, 142, 143, 144, 145, 146, 147, 148, 149, 150, 151, 152, 153, 154, 155, 156, 157, 158, 159, 160, 161, 162, 163, 164, 165, 166, 167, 168, 169, 170, 171, 172, 173, 174, 175, 176, 177, 178, 179, 180, 181, 182, 183, 184, 185, 186, 187, 188, 189, 190, 191, 192] (by decide +kernel) (by decide +kernel)
set_option maxRecDepth 20000 in
theorem gX9_moot_X9_isClaim : GoodIn wsX9_moot (wsV RX9 390 RX9 yX9_isClaim wsX9_isClaim) := goodIn_app (goodIn_of _ (by decide +kernel)) ggX9_moot_X9_isClaim
theorem dX9_moot_0 : decode cX9_moot 0 = .ok (.aload_n 0, 1) := by decide +kernel
theorem dX9_moot_1 : decode cX9_moot 1 = .ok (.iload_n 1, 1) := by decide +kernel
theorem dX9_moot_2 : decode cX9_moot 2 = .ok (.invokevirtual 390, 3) := by decide +kernel
theorem dX9_moot_5 : decode cX9_moot 5 = .ok (.ifCond .eq 21, 3) := by decide +kernel
theorem dX9_moot_26 : decode cX9_moot 26 = .ok (.bipush (-2), 2) := by decide +kernel
theorem dX9_moot_28 : decode cX9_moot 28 = .ok (.ireturn, 1) := by decide +kernel
set_option maxRecDepth 20000 in
theorem ggX9_counsels_X9_isClaim : GoodIn wsX9_counsels wsX9_isClaim := goodIn_r _ [8, 9, 10, 11, 12, 13, 7, 14, 15, 16, 17, 18, 19, 20, 21, 22, 119, 120, 121, 122, 123, 124, 125, 126, 127, 128, 129, 130, 131, 132, 133, 134, 135, 136, 137, 138, 139, 140, 141, 142, 143, 144, 145, 146, 147, 148, 149, 150, 151, 152, 153, 154, 155, 156, 157, 158, 159, 160, 161, 162, 163, 164, 165, 166, 167, 168, 169, 170, 171, 172, 173, 174, 175, 176, 177, 178, 179, 180, 181, 182] (by decide +kernel) (by decide +kernel)
set_option maxRecDepth 20000 in
theorem gX9_counsels_X9_isClaim : GoodIn wsX9_counsels (wsV RX9 390 RX9 yX9_isClaim wsX9_isClaim) := goodIn_app (goodIn_of _ (by decide +kernel)) ggX9_counsels_X9_isClaim
theorem dX9_counsels_0 : decode cX9_counsels 0 = .ok (.aload_n 0, 1) := by decide +kernel
theorem dX9_counsels_1 : decode cX9_counsels 1 = .ok (.iconst 0, 1) := by decide +kernel
theorem dX9_counsels_2 : decode cX9_counsels 2 = .ok (.putfield 377, 3) := by decide +kernel
theorem dX9_counsels_5 : decode cX9_counsels 5 = .ok (.aload_n 0, 1) := by decide +kernel
theorem dX9_counsels_6 : decode cX9_counsels 6 = .ok (.iload_n 1, 1) := by decide +kernel
theorem dX9_counsels_7 : decode cX9_counsels 7 = .ok (.invokevirtual 390, 3) := by decide +kernel
theorem dX9_counsels_10 : decode cX9_counsels 10 = .ok (.ifCond .eq 25, 3) := by decide +kernel
theorem dX9_counsels_35 : decode cX9_counsels 35 = .ok (.iconst (-1), 1) := by decide +kernel
theorem dX9_counsels_36 : decode cX9_counsels 36 = .ok (.ireturn, 1) := by decide +kernel
set_option maxRecDepth 20000 in
theorem ggX9_odds_X9_isIn : GoodIn wsX9_odds wsX9_isIn := goodIn_r _ [6] (by decide +kernel) (by decide +kernel)
set_option maxRecDepth 20000 in
theorem gX9_odds_X9_isIn : GoodIn wsX9_odds (va_wsS RX9 346 yX9_isIn wsX9_isIn) := goodIn_app (goodIn_of _ (by decide +kernel)) ggX9_odds_X9_isIn
set_option maxRecDepth 20000 in
theorem ggX9_odds_X9_raised : GoodIn wsX9_odds wsX9_raised := goodIn_r _ [9] (by decide +kernel) (by decide +kernel)
set_option maxRecDepth 20000 in
theorem gX9_odds_X9_raised : GoodIn wsX9_odds (va_wsS RX9 482 yX9_raised wsX9_raised) := goodIn_app (goodIn_of _ (by decide +kernel)) ggX9_odds_X9_raised
set_option maxRecDepth 20000 in
theorem ggX9_odds_X9_divisor : GoodIn wsX9_odds wsX9_divisor := goodIn_r _ [12] (by decide +kernel) (by decide +kernel)
set_option maxRecDepth 20000 in
theorem gX9_odds_X9_divisor : GoodIn wsX9_odds (va_wsS RX9 485 yX9_divisor wsX9_divisor) := goodIn_app (goodIn_of _ (by decide +kernel)) ggX9_odds_X9_divisor
theorem dX9_odds_0 : decode cX9_odds 0 = .ok (.iload_n 1, 1) := by decide +kernel
theorem dX9_odds_1 : decode cX9_odds 1 = .ok (.iconst 0, 1) := by decide +kernel
theorem dX9_odds_2 : decode cX9_odds 2 = .ok (.iconst 4, 1) := by decide +kernel
theorem dX9_odds_3 : decode cX9_odds 3 = .ok (.invokestatic 346, 3) := by decide +kernel
theorem dX9_odds_6 : decode cX9_odds 6 = .ok (.ifCond .eq 12, 3) := by decide +kernel
theorem dX9_odds_9 : decode cX9_odds 9 = .ok (.iload_n 2, 1) := by decide +kernel
theorem dX9_odds_10 : decode cX9_odds 10 = .ok (.iconst 0, 1) := by decide +kernel
theorem dX9_odds_11 : decode cX9_odds 11 = .ok (.iconst 1, 1) := by decide +kernel
theorem dX9_odds_12 : decode cX9_odds 12 = .ok (.invokestatic 346, 3) := by decide +kernel
theorem dX9_odds_15 : decode cX9_odds 15 = .ok (.ifCond .ne 5, 3) := by decide +kernel
theorem dX9_odds_18 : decode cX9_odds 18 = .ok (.iconst (-1), 1) := by decide +kernel
theorem dX9_odds_19 : decode cX9_odds 19 = .ok (.ireturn, 1) := by decide +kernel
theorem dX9_odds_20 : decode cX9_odds 20 = .ok (.bipush 100, 2) := by decide +kernel
theorem dX9_odds_22 : decode cX9_odds 22 = .ok (.aload_n 0, 1) := by decide +kernel
theorem dX9_odds_23 : decode cX9_odds 23 = .ok (.getfield 30, 3) := by decide +kernel
theorem dX9_odds_26 : decode cX9_odds 26 = .ok (.aload_n 0, 1) := by decide +kernel
theorem dX9_odds_27 : decode cX9_odds 27 = .ok (.getfield 239, 3) := by decide +kernel
theorem dX9_odds_30 : decode cX9_odds 30 = .ok (.iaload, 1) := by decide +kernel
theorem dX9_odds_31 : decode cX9_odds 31 = .ok (.isub, 1) := by decide +kernel
theorem dX9_odds_32 : decode cX9_odds 32 = .ok (.iload_n 1, 1) := by decide +kernel
theorem dX9_odds_33 : decode cX9_odds 33 = .ok (.invokestatic 482, 3) := by decide +kernel
theorem dX9_odds_36 : decode cX9_odds 36 = .ok (.istore_n 3, 1) := by decide +kernel
theorem dX9_odds_37 : decode cX9_odds 37 = .ok (.bipush 100, 2) := by decide +kernel
theorem dX9_odds_39 : decode cX9_odds 39 = .ok (.iload_n 1, 1) := by decide +kernel
theorem dX9_odds_40 : decode cX9_odds 40 = .ok (.invokestatic 482, 3) := by decide +kernel
theorem dX9_odds_43 : decode cX9_odds 43 = .ok (.istore 4, 2) := by decide +kernel
theorem dX9_odds_45 : decode cX9_odds 45 = .ok (.iload_n 2, 1) := by decide +kernel
theorem dX9_odds_46 : decode cX9_odds 46 = .ok (.ifCond .ne 7, 3) := by decide +kernel
theorem dX9_odds_49 : decode cX9_odds 49 = .ok (.iload_n 3, 1) := by decide +kernel
theorem dX9_odds_50 : decode cX9_odds 50 = .ok (.goto 5, 3) := by decide +kernel
theorem dX9_odds_53 : decode cX9_odds 53 = .ok (.iload 4, 2) := by decide +kernel
theorem dX9_odds_55 : decode cX9_odds 55 = .ok (.iload 4, 2) := by decide +kernel
theorem dX9_odds_57 : decode cX9_odds 57 = .ok (.iload_n 3, 1) := by decide +kernel
theorem dX9_odds_58 : decode cX9_odds 58 = .ok (.invokestatic 485, 3) := by decide +kernel
theorem dX9_odds_61 : decode cX9_odds 61 = .ok (.idiv, 1) := by decide +kernel
theorem dX9_odds_62 : decode cX9_odds 62 = .ok (.ireturn, 1) := by decide +kernel
set_option maxRecDepth 20000 in
theorem ggX9_seen_X9_isClaim : GoodIn wsX9_seen wsX9_isClaim := goodIn_r _ [11, 12, 13, 14, 15, 16, 10, 17, 18, 19, 20, 21, 22, 23, 24, 25, 26, 27, 28, 29, 30, 31, 32, 33, 34, 35, 36, 37, 38, 39, 40, 41, 42, 43, 44, 45, 46, 47, 48, 49, 50, 51, 52, 53, 54, 55, 56, 57, 58, 59, 60, 61, 62, 63, 64, 65, 66, 67, 68, 69, 70, 71, 72, 73, 74, 75, 76, 77, 78, 79, 80, 81, 82, 83, 84, 85, 86, 87, 88, 89] (by decide +kernel) (by decide +kernel)
set_option maxRecDepth 20000 in
theorem gX9_seen_X9_isClaim : GoodIn wsX9_seen (wsV RX9 390 RX9 yX9_isClaim wsX9_isClaim) := goodIn_app (goodIn_of _ (by decide +kernel)) ggX9_seen_X9_isClaim
theorem dX9_seen_0 : decode cX9_seen 0 = .ok (.aload_n 0, 1) := by decide +kernel
theorem dX9_seen_1 : decode cX9_seen 1 = .ok (.iload_n 1, 1) := by decide +kernel
theorem dX9_seen_2 : decode cX9_seen 2 = .ok (.invokevirtual 390, 3) := by decide +kernel
theorem dX9_seen_5 : decode cX9_seen 5 = .ok (.ifCond .eq 12, 3) := by decide +kernel
theorem dX9_seen_17 : decode cX9_seen 17 = .ok (.iconst (-1), 1) := by decide +kernel
theorem dX9_seen_18 : decode cX9_seen 18 = .ok (.ireturn, 1) := by decide +kernel
set_option maxRecDepth 20000 in
theorem ggX9_untell_X9_isIn : GoodIn wsX9_untell wsX9_isIn := goodIn_r _ [7] (by decide +kernel) (by decide +kernel)
set_option maxRecDepth 20000 in
theorem gX9_untell_X9_isIn : GoodIn wsX9_untell (va_wsS RX9 346 yX9_isIn wsX9_isIn) := goodIn_app (goodIn_of _ (by decide +kernel)) ggX9_untell_X9_isIn
theorem dX9_untell_0 : decode cX9_untell 0 = .ok (.iload_n 1, 1) := by decide +kernel
theorem dX9_untell_1 : decode cX9_untell 1 = .ok (.iconst 0, 1) := by decide +kernel
theorem dX9_untell_2 : decode cX9_untell 2 = .ok (.aload_n 0, 1) := by decide +kernel
theorem dX9_untell_3 : decode cX9_untell 3 = .ok (.getfield 374, 3) := by decide +kernel
theorem dX9_untell_6 : decode cX9_untell 6 = .ok (.iconst 1, 1) := by decide +kernel
theorem dX9_untell_7 : decode cX9_untell 7 = .ok (.isub, 1) := by decide +kernel
theorem dX9_untell_8 : decode cX9_untell 8 = .ok (.invokestatic 346, 3) := by decide +kernel
theorem dX9_untell_11 : decode cX9_untell 11 = .ok (.ifCond .eq 12, 3) := by decide +kernel
theorem dX9_untell_23 : decode cX9_untell 23 = .ok (.iconst 0, 1) := by decide +kernel
theorem dX9_untell_24 : decode cX9_untell 24 = .ok (.ireturn, 1) := by decide +kernel
set_option maxRecDepth 20000 in
theorem ggX9_later_X9_isIn : GoodIn wsX9_later wsX9_isIn := goodIn_r _ [6] (by decide +kernel) (by decide +kernel)
set_option maxRecDepth 20000 in
theorem gX9_later_X9_isIn : GoodIn wsX9_later (va_wsS RX9 346 yX9_isIn wsX9_isIn) := goodIn_app (goodIn_of _ (by decide +kernel)) ggX9_later_X9_isIn
theorem dX9_later_0 : decode cX9_later 0 = .ok (.iload_n 1, 1) := by decide +kernel
theorem dX9_later_1 : decode cX9_later 1 = .ok (.iconst 0, 1) := by decide +kernel
theorem dX9_later_2 : decode cX9_later 2 = .ok (.sipush 1000, 3) := by decide +kernel
theorem dX9_later_5 : decode cX9_later 5 = .ok (.invokestatic 346, 3) := by decide +kernel
theorem dX9_later_8 : decode cX9_later 8 = .ok (.ifCond .eq 15, 3) := by decide +kernel
theorem dX9_later_11 : decode cX9_later 11 = .ok (.aload_n 0, 1) := by decide +kernel
theorem dX9_later_12 : decode cX9_later 12 = .ok (.getfield 488, 3) := by decide +kernel
theorem dX9_later_15 : decode cX9_later 15 = .ok (.iload_n 1, 1) := by decide +kernel
theorem dX9_later_16 : decode cX9_later 16 = .ok (.iadd, 1) := by decide +kernel
theorem dX9_later_17 : decode cX9_later 17 = .ok (.ldc_w 457, 3) := by decide +kernel
theorem dX9_later_20 : decode cX9_later 20 = .ok (.if_icmp .le 5, 3) := by decide +kernel
theorem dX9_later_23 : decode cX9_later 23 = .ok (.iconst (-1), 1) := by decide +kernel
theorem dX9_later_24 : decode cX9_later 24 = .ok (.ireturn, 1) := by decide +kernel
theorem dX9_later_25 : decode cX9_later 25 = .ok (.aload_n 0, 1) := by decide +kernel
theorem dX9_later_26 : decode cX9_later 26 = .ok (.dup, 1) := by decide +kernel
theorem dX9_later_27 : decode cX9_later 27 = .ok (.getfield 488, 3) := by decide +kernel
theorem dX9_later_30 : decode cX9_later 30 = .ok (.iload_n 1, 1) := by decide +kernel
theorem dX9_later_31 : decode cX9_later 31 = .ok (.iadd, 1) := by decide +kernel
theorem dX9_later_32 : decode cX9_later 32 = .ok (.putfield 488, 3) := by decide +kernel
theorem dX9_later_35 : decode cX9_later 35 = .ok (.aload_n 0, 1) := by decide +kernel
theorem dX9_later_36 : decode cX9_later 36 = .ok (.getfield 488, 3) := by decide +kernel
theorem dX9_later_39 : decode cX9_later 39 = .ok (.ireturn, 1) := by decide +kernel
theorem dX9_doesFit_0 : decode cX9_doesFit 0 = .ok (.iconst 0, 1) := by decide +kernel
theorem dX9_doesFit_1 : decode cX9_doesFit 1 = .ok (.istore_n 3, 1) := by decide +kernel
theorem dX9_doesFit_2 : decode cX9_doesFit 2 = .ok (.iload_n 3, 1) := by decide +kernel
theorem dX9_doesFit_3 : decode cX9_doesFit 3 = .ok (.aload_n 0, 1) := by decide +kernel
theorem dX9_doesFit_4 : decode cX9_doesFit 4 = .ok (.getfield 374, 3) := by decide +kernel
theorem dX9_doesFit_7 : decode cX9_doesFit 7 = .ok (.if_icmp .ge 67, 3) := by decide +kernel
theorem dX9_doesFit_74 : decode cX9_doesFit 74 = .ok (.iconst 1, 1) := by decide +kernel
theorem dX9_doesFit_75 : decode cX9_doesFit 75 = .ok (.ireturn, 1) := by decide +kernel
set_option maxRecDepth 20000 in
theorem ggX9_layWays_X9_keepNow : GoodIn wsX9_layWays wsX9_keepNow := goodIn_r _ [11, 12, 3, 133, 134, 135, 136, 137, 138, 139, 140, 141, 142, 143, 144, 145, 146, 147, 148, 149, 150, 151, 152, 153, 154, 155, 156, 157, 158, 159, 160, 161, 162, 163, 164, 165, 166, 167, 168, 169, 170, 171, 172, 173, 174, 175, 176, 177, 178, 179, 180, 181, 182, 183, 184, 185, 186, 187, 188, 189, 190, 191, 192, 193, 194, 195, 196] (by decide +kernel) (by decide +kernel)
set_option maxRecDepth 20000 in
theorem gX9_layWays_X9_keepNow : GoodIn wsX9_layWays (wsV RX9 430 RX9 yX9_keepNow wsX9_keepNow) := goodIn_app (goodIn_of _ (by decide +kernel)) ggX9_layWays_X9_keepNow
set_option maxRecDepth 20000 in
theorem ggX9_layWays_X9_layTold : GoodIn wsX9_layWays wsX9_layTold := goodIn_r _ [16, 3, 17, 18, 19, 20, 21, 22, 10, 23, 24, 133, 134, 135, 136, 137, 138, 139, 140, 141, 142, 143, 144, 145, 146, 147, 148, 149, 150, 151, 152, 153, 154, 155, 156, 157, 158, 159, 160, 161, 162, 163, 164, 165, 166, 167, 168, 169, 170, 171, 172, 173, 174, 175, 176, 177, 178, 179, 180, 181, 182, 183, 184, 185, 186, 187, 188, 189, 190, 191, 192, 193, 194, 195, 196] (by decide +kernel) (by decide +kernel)
set_option maxRecDepth 20000 in
theorem gX9_layWays_X9_layTold : GoodIn wsX9_layWays (wsV RX9 365 RX9 yX9_layTold wsX9_layTold) := goodIn_app (goodIn_of _ (by decide +kernel)) ggX9_layWays_X9_layTold
set_option maxRecDepth 20000 in
theorem ggX9_layWays_X9_bitsOf : GoodIn wsX9_layWays wsX9_bitsOf := goodIn_r _ [27] (by decide +kernel) (by decide +kernel)
set_option maxRecDepth 20000 in
theorem gX9_layWays_X9_bitsOf : GoodIn wsX9_layWays (va_wsS RX9 324 yX9_bitsOf wsX9_bitsOf) := goodIn_app (goodIn_of _ (by decide +kernel)) ggX9_layWays_X9_bitsOf
set_option maxRecDepth 20000 in
theorem ggX9_layWays_X9_standBy : GoodIn wsX9_layWays wsX9_standBy := goodIn_r _ [31, 32, 33, 34, 35, 10, 36, 37, 38, 3, 39, 40, 18, 20, 21, 22, 23, 24, 41, 42, 43, 44, 45, 46, 47, 48, 49, 50, 51, 52, 53, 54, 55, 56, 57, 58, 59, 60, 61, 62, 63, 64, 65, 66, 67, 68, 25, 26, 27, 69, 70, 71, 72, 73, 74, 75, 76, 77, 78, 79, 80, 81, 82, 83, 84, 85, 86, 87, 88, 89, 90, 91, 92, 93, 94, 95, 96, 97, 98, 99, 100, 101, 102, 103, 104, 105, 106, 107, 108, 109, 110, 111, 112, 113, 114, 115, 116, 117, 118, 119, 133, 134, 135, 136, 137, 138, 139, 140, 141, 142, 143, 144, 145, 146, 147, 148, 149, 150, 151, 152, 153, 154, 155, 156, 157, 158, 159, 160, 161, 162, 163, 164, 165, 166, 167, 168, 169, 170, 171, 172, 173, 174, 175, 176, 177, 178, 179, 180, 181, 182, 183, 184, 185, 186, 187, 188, 189, 190, 191, 192, 193, 194, 195, 196] (by decide +kernel) (by decide +kernel)
set_option maxRecDepth 20000 in
theorem gX9_layWays_X9_standBy : GoodIn wsX9_layWays (wsV RX9 396 RX9 yX9_standBy wsX9_standBy) := goodIn_app (goodIn_of _ (by decide +kernel)) ggX9_layWays_X9_standBy
set_option maxRecDepth 20000 in
theorem ggX9_layWays_X9_doesFit : GoodIn wsX9_layWays wsX9_doesFit := goodIn_r _ [123, 124, 125, 126, 5, 127, 128, 133, 134, 135, 136, 137, 138, 139, 140, 141, 142, 143, 144, 145, 146, 147, 148, 149, 150, 151, 152, 153, 154, 155, 156, 157, 158, 159, 160, 161, 162, 163, 164, 165, 166, 167, 168, 169, 170, 171, 172, 173, 174, 175, 176, 177, 178, 179, 180, 181, 182, 183, 184, 185, 186, 187, 188, 189, 190, 191, 192, 193, 194, 195, 196] (by decide +kernel) (by decide +kernel)
set_option maxRecDepth 20000 in
theorem gX9_layWays_X9_doesFit : GoodIn wsX9_layWays (wsV RX9 497 RX9 yX9_doesFit wsX9_doesFit) := goodIn_app (goodIn_of _ (by decide +kernel)) ggX9_layWays_X9_doesFit
set_option maxRecDepth 20000 in
theorem ggX9_layWays_X9_bringBack : GoodIn wsX9_layWays wsX9_bringBack := goodIn_r _ [132, 3, 12, 133, 134, 135, 136, 137, 138, 139, 140, 141, 142, 143, 144, 145, 146, 147, 148, 149, 150, 151, 152, 153, 154, 155, 156, 157, 158, 159, 160, 161, 162, 163, 164, 165, 166, 167, 168, 169, 170, 171, 172, 173, 174, 175, 176, 177, 178, 179, 180, 181, 182, 183, 184, 185, 186, 187, 188, 189, 190, 191, 192, 193, 194, 195, 196] (by decide +kernel) (by decide +kernel)
set_option maxRecDepth 20000 in
theorem gX9_layWays_X9_bringBack : GoodIn wsX9_layWays (wsV RX9 433 RX9 yX9_bringBack wsX9_bringBack) := goodIn_app (goodIn_of _ (by decide +kernel)) ggX9_layWays_X9_bringBack
theorem dX9_layWays_0 : decode cX9_layWays 0 = .ok (.aload_n 0, 1) := by decide +kernel
theorem dX9_layWays_1 : decode cX9_layWays 1 = .ok (.invokevirtual 430, 3) := by decide +kernel
theorem dX9_layWays_4 : decode cX9_layWays 4 = .ok (.aload_n 0, 1) := by decide +kernel
theorem dX9_layWays_5 : decode cX9_layWays 5 = .ok (.invokevirtual 365, 3) := by decide +kernel
theorem dX9_layWays_8 : decode cX9_layWays 8 = .ok (.aload_n 0, 1) := by decide +kernel
theorem dX9_layWays_9 : decode cX9_layWays 9 = .ok (.iconst 0, 1) := by decide +kernel
theorem dX9_layWays_10 : decode cX9_layWays 10 = .ok (.putfield 491, 3) := by decide +kernel
theorem dX9_layWays_13 : decode cX9_layWays 13 = .ok (.aload_n 0, 1) := by decide +kernel
theorem dX9_layWays_14 : decode cX9_layWays 14 = .ok (.iconst 0, 1) := by decide +kernel
theorem dX9_layWays_15 : decode cX9_layWays 15 = .ok (.putfield 494, 3) := by decide +kernel
theorem dX9_layWays_18 : decode cX9_layWays 18 = .ok (.iconst 0, 1) := by decide +kernel
theorem dX9_layWays_19 : decode cX9_layWays 19 = .ok (.istore_n 2, 1) := by decide +kernel
theorem dX9_layWays_20 : decode cX9_layWays 20 = .ok (.iload_n 2, 1) := by decide +kernel
theorem dX9_layWays_21 : decode cX9_layWays 21 = .ok (.aload_n 0, 1) := by decide +kernel
theorem dX9_layWays_22 : decode cX9_layWays 22 = .ok (.getfield 76, 3) := by decide +kernel
theorem dX9_layWays_25 : decode cX9_layWays 25 = .ok (.iconst 1, 1) := by decide +kernel
theorem dX9_layWays_26 : decode cX9_layWays 26 = .ok (.iaload, 1) := by decide +kernel
theorem dX9_layWays_27 : decode cX9_layWays 27 = .ok (.if_icmp .gt 108, 3) := by decide +kernel
theorem dX9_layWays_30 : decode cX9_layWays 30 = .ok (.iload_n 2, 1) := by decide +kernel
theorem dX9_layWays_31 : decode cX9_layWays 31 = .ok (.invokestatic 324, 3) := by decide +kernel
theorem dX9_layWays_34 : decode cX9_layWays 34 = .ok (.iconst 2, 1) := by decide +kernel
theorem dX9_layWays_35 : decode cX9_layWays 35 = .ok (.if_icmp .le 6, 3) := by decide +kernel
theorem dX9_layWays_41 : decode cX9_layWays 41 = .ok (.aload_n 0, 1) := by decide +kernel
theorem dX9_layWays_42 : decode cX9_layWays 42 = .ok (.getfield 103, 3) := by decide +kernel
theorem dX9_layWays_45 : decode cX9_layWays 45 = .ok (.aload_n 0, 1) := by decide +kernel
theorem dX9_layWays_46 : decode cX9_layWays 46 = .ok (.getfield 491, 3) := by decide +kernel
theorem dX9_layWays_49 : decode cX9_layWays 49 = .ok (.iload_n 2, 1) := by decide +kernel
theorem dX9_layWays_50 : decode cX9_layWays 50 = .ok (.iastore, 1) := by decide +kernel
theorem dX9_layWays_51 : decode cX9_layWays 51 = .ok (.aload_n 0, 1) := by decide +kernel
theorem dX9_layWays_52 : decode cX9_layWays 52 = .ok (.getfield 106, 3) := by decide +kernel
theorem dX9_layWays_55 : decode cX9_layWays 55 = .ok (.aload_n 0, 1) := by decide +kernel
theorem dX9_layWays_56 : decode cX9_layWays 56 = .ok (.getfield 491, 3) := by decide +kernel
theorem dX9_layWays_59 : decode cX9_layWays 59 = .ok (.aload_n 0, 1) := by decide +kernel
theorem dX9_layWays_60 : decode cX9_layWays 60 = .ok (.iconst 0, 1) := by decide +kernel
theorem dX9_layWays_61 : decode cX9_layWays 61 = .ok (.aload_n 0, 1) := by decide +kernel
theorem dX9_layWays_62 : decode cX9_layWays 62 = .ok (.getfield 76, 3) := by decide +kernel
theorem dX9_layWays_65 : decode cX9_layWays 65 = .ok (.iconst 1, 1) := by decide +kernel
theorem dX9_layWays_66 : decode cX9_layWays 66 = .ok (.iaload, 1) := by decide +kernel
theorem dX9_layWays_67 : decode cX9_layWays 67 = .ok (.iload_n 2, 1) := by decide +kernel
theorem dX9_layWays_68 : decode cX9_layWays 68 = .ok (.iconst (-1), 1) := by decide +kernel
theorem dX9_layWays_69 : decode cX9_layWays 69 = .ok (.ixor, 1) := by decide +kernel
theorem dX9_layWays_70 : decode cX9_layWays 70 = .ok (.iand, 1) := by decide +kernel
theorem dX9_layWays_71 : decode cX9_layWays 71 = .ok (.invokevirtual 396, 3) := by decide +kernel
theorem dX9_layWays_74 : decode cX9_layWays 74 = .ok (.iastore, 1) := by decide +kernel
theorem dX9_layWays_75 : decode cX9_layWays 75 = .ok (.aload_n 0, 1) := by decide +kernel
theorem dX9_layWays_76 : decode cX9_layWays 76 = .ok (.getfield 121, 3) := by decide +kernel
theorem dX9_layWays_79 : decode cX9_layWays 79 = .ok (.aload_n 0, 1) := by decide +kernel
theorem dX9_layWays_80 : decode cX9_layWays 80 = .ok (.getfield 491, 3) := by decide +kernel
theorem dX9_layWays_83 : decode cX9_layWays 83 = .ok (.aload_n 0, 1) := by decide +kernel
theorem dX9_layWays_84 : decode cX9_layWays 84 = .ok (.aload_n 0, 1) := by decide +kernel
theorem dX9_layWays_85 : decode cX9_layWays 85 = .ok (.getfield 491, 3) := by decide +kernel
theorem dX9_layWays_88 : decode cX9_layWays 88 = .ok (.iload_n 1, 1) := by decide +kernel
theorem dX9_layWays_89 : decode cX9_layWays 89 = .ok (.invokevirtual 497, 3) := by decide +kernel
theorem dX9_layWays_92 : decode cX9_layWays 92 = .ok (.bastore, 1) := by decide +kernel
theorem dX9_layWays_93 : decode cX9_layWays 93 = .ok (.aload_n 0, 1) := by decide +kernel
theorem dX9_layWays_94 : decode cX9_layWays 94 = .ok (.dup, 1) := by decide +kernel
theorem dX9_layWays_95 : decode cX9_layWays 95 = .ok (.getfield 494, 3) := by decide +kernel
theorem dX9_layWays_98 : decode cX9_layWays 98 = .ok (.aload_n 0, 1) := by decide +kernel
theorem dX9_layWays_99 : decode cX9_layWays 99 = .ok (.getfield 121, 3) := by decide +kernel
theorem dX9_layWays_102 : decode cX9_layWays 102 = .ok (.aload_n 0, 1) := by decide +kernel
theorem dX9_layWays_103 : decode cX9_layWays 103 = .ok (.getfield 491, 3) := by decide +kernel
theorem dX9_layWays_106 : decode cX9_layWays 106 = .ok (.baload, 1) := by decide +kernel
theorem dX9_layWays_107 : decode cX9_layWays 107 = .ok (.ifCond .eq 7, 3) := by decide +kernel
theorem dX9_layWays_110 : decode cX9_layWays 110 = .ok (.iconst 1, 1) := by decide +kernel
theorem dX9_layWays_111 : decode cX9_layWays 111 = .ok (.goto 4, 3) := by decide +kernel
theorem dX9_layWays_115 : decode cX9_layWays 115 = .ok (.iadd, 1) := by decide +kernel
theorem dX9_layWays_116 : decode cX9_layWays 116 = .ok (.putfield 494, 3) := by decide +kernel
theorem dX9_layWays_119 : decode cX9_layWays 119 = .ok (.aload_n 0, 1) := by decide +kernel
theorem dX9_layWays_120 : decode cX9_layWays 120 = .ok (.dup, 1) := by decide +kernel
theorem dX9_layWays_121 : decode cX9_layWays 121 = .ok (.getfield 491, 3) := by decide +kernel
theorem dX9_layWays_124 : decode cX9_layWays 124 = .ok (.iconst 1, 1) := by decide +kernel
theorem dX9_layWays_125 : decode cX9_layWays 125 = .ok (.iadd, 1) := by decide +kernel
theorem dX9_layWays_126 : decode cX9_layWays 126 = .ok (.putfield 491, 3) := by decide +kernel
theorem dX9_layWays_129 : decode cX9_layWays 129 = .ok (.iinc 2 1, 3) := by decide +kernel
theorem dX9_layWays_132 : decode cX9_layWays 132 = .ok (.goto (-112), 3) := by decide +kernel
theorem dX9_layWays_135 : decode cX9_layWays 135 = .ok (.aload_n 0, 1) := by decide +kernel
theorem dX9_layWays_136 : decode cX9_layWays 136 = .ok (.invokevirtual 433, 3) := by decide +kernel
theorem dX9_layWays_139 : decode cX9_layWays 139 = .ok (.return_, 1) := by decide +kernel
set_option maxRecDepth 20000 in
theorem ggX9_ways_X9_layWays : GoodIn wsX9_ways wsX9_layWays := goodIn_r _ [6, 7, 1, 8, 9, 10, 11, 12, 13, 14, 5, 15, 16, 17, 18, 19, 20, 21, 22, 23, 24, 25, 26, 27, 28, 29, 30, 31, 32, 33, 34, 35, 36, 37, 38, 39, 40, 41, 42, 43, 44, 45, 46, 47, 48, 49, 50, 51, 52, 53, 54, 55, 56, 57, 58, 59, 60, 61, 62, 63, 64, 65, 66, 67, 68, 69, 70, 71, 72, 73, 74, 75, 76, 77, 78, 79, 80, 81, 82, 83, 84, 85, 86, 87, 88, 89, 90, 91, 92, 93, 94, 95, 96, 97, 98, 99, 100, 101, 102, 103, 104, 105, 106, 107, 108, 109, 110, 111, 112, 113, 114, 115, 116, 117, 118, 119, 120, 121, 122, 123, 124, 125, 126, 127, 128, 129, 130, 131, 132, 133, 134, 135, 136, 137, 138, 139, 140, 141, 142, 143, 144, 145, 146, 147, 148, 149, 150, 151, 152, 153, 154, 155, 156, 157, 158, 159, 160, 161, 162, 163, 164, 165, 166, 167, 168, 169, 170, 171, 172, 173, 174, 175, 176, 177, 178, 179, 180, 181, 182, 183, 184, 185, 186, 187, 188, 189, 190, 191, 192, 193, 194, 195, 196, 197, 198, 199, 200] (by decide +kernel) (by decide +kernel)
set_option maxRecDepth 20000 in
theorem gX9_ways_X9_layWays : GoodIn wsX9_ways (wsV RX9 500 RX9 yX9_layWays wsX9_layWays) := goodIn_app (goodIn_of _ (by decide +kernel)) ggX9_ways_X9_layWays
theorem dX9_ways_0 : decode cX9_ways 0 = .ok (.aload_n 0, 1) := by decide +kernel
theorem dX9_ways_1 : decode cX9_ways 1 = .ok (.iload_n 1, 1) := by decide +kernel
theorem dX9_ways_2 : decode cX9_ways 2 = .ok (.invokevirtual 500, 3) := by decide +kernel
theorem dX9_ways_5 : decode cX9_ways 5 = .ok (.aload_n 0, 1) := by decide +kernel
theorem dX9_ways_6 : decode cX9_ways 6 = .ok (.getfield 494, 3) := by decide +kernel
theorem dX9_ways_9 : decode cX9_ways 9 = .ok (.ireturn, 1) := by decide +kernel
set_option maxRecDepth 20000 in
theorem ggX9_sure_X9_isThread : GoodIn wsX9_sure wsX9_isThread := goodIn_r _ [9, 10, 11, 12, 8, 13, 14, 15, 16, 17, 18, 141, 142, 143, 144, 145, 146, 147, 148, 149, 150, 151, 152, 153, 154, 155, 156, 157, 158, 159, 160, 161, 162, 163, 164, 165, 166, 167, 168, 169, 170, 171, 172, 173, 174, 175, 176, 177, 178, 179, 180, 181, 182, 183, 184, 185, 186, 187, 188, 189, 190, 191, 192, 193, 194, 195, 196, 197, 198, 199, 200, 201, 202, 203, 204] (by decide +kernel) (by decide +kernel)
set_option maxRecDepth 20000 in
theorem gX9_sure_X9_isThread : GoodIn wsX9_sure (wsV RX9 408 RX9 yX9_isThread wsX9_isThread) := goodIn_app (goodIn_of _ (by decide +kernel)) ggX9_sure_X9_isThread
theorem dX9_sure_0 : decode cX9_sure 0 = .ok (.aload_n 0, 1) := by decide +kernel
theorem dX9_sure_1 : decode cX9_sure 1 = .ok (.iload_n 1, 1) := by decide +kernel
theorem dX9_sure_2 : decode cX9_sure 2 = .ok (.invokevirtual 408, 3) := by decide +kernel
theorem dX9_sure_5 : decode cX9_sure 5 = .ok (.ifCond .ne 5, 3) := by decide +kernel
theorem dX9_sure_8 : decode cX9_sure 8 = .ok (.iconst (-1), 1) := by decide +kernel
theorem dX9_sure_9 : decode cX9_sure 9 = .ok (.ireturn, 1) := by decide +kernel
set_option maxRecDepth 20000 in
theorem ggX9_ask_X9_isIn : GoodIn wsX9_ask wsX9_isIn := goodIn_r _ [5] (by decide +kernel) (by decide +kernel)
set_option maxRecDepth 20000 in
theorem gX9_ask_X9_isIn : GoodIn wsX9_ask (va_wsS RX9 346 yX9_isIn wsX9_isIn) := goodIn_app (goodIn_of _ (by decide +kernel)) ggX9_ask_X9_isIn
set_option maxRecDepth 20000 in
theorem ggX9_ask_X9_layWays : GoodIn wsX9_ask wsX9_layWays := goodIn_r _ [9, 10, 1, 11, 12, 13, 14, 15, 16, 17, 4, 18, 19, 20, 21, 22, 23, 24, 25, 26, 27, 28, 29, 30, 31, 32, 33, 34, 35, 36, 37, 38, 39, 40, 41, 42, 43, 44, 45, 46, 47, 48, 49, 50, 51, 52, 53, 54, 55, 56, 57, 58, 59, 60, 61, 62, 63, 64, 65, 66, 67, 68, 69, 70, 71, 72, 73, 74, 75, 76, 77, 78, 79, 80, 81, 82, 83, 84, 85, 86, 87, 88, 89, 90, 91, 92, 93, 94, 95, 96, 97, 98, 99, 100, 101, 102, 103, 104, 105, 106, 107, 108, 109, 110, 111, 112, 113, 114, 115, 2, 3, 5, 116, 117, 118, 119, 120, 121, 122, 123, 124, 125, 126, 127, 128, 129, 130, 131, 132, 133, 134, 135, 136, 141, 142, 143, 144, 145, 146, 147, 148, 149, 150, 151, 152, 153, 154, 155, 156, 157, 158, 159, 160, 161, 162, 163, 164, 165, 166, 167, 168, 169, 170, 171, 172, 173, 174, 175, 176, 177, 178, 179, 180, 181, 182, 183, 184, 185, 186, 187, 188, 189, 190, 191, 192, 193, 194, 195, 196, 197, 198, 199, 200, 201, 202, 203, 204] (by decide +kernel) (by decide +kernel)
set_option maxRecDepth 20000 in
theorem gX9_ask_X9_layWays : GoodIn wsX9_ask (wsV RX9 500 RX9 yX9_layWays wsX9_layWays) := goodIn_app (goodIn_of _ (by decide +kernel)) ggX9_ask_X9_layWays
set_option maxRecDepth 20000 in
theorem ggX9_ask_X9_many : GoodIn wsX9_ask wsX9_many := goodIn_r _ [106, 107, 25, 141, 142, 143, 144, 145, 146, 147, 148, 149, 150, 151, 152, 153, 154, 155, 156, 157, 158, 159, 160, 161, 162, 163, 164, 165, 166, 167, 168, 169, 170, 171, 172, 173, 174, 175, 176, 177, 178, 179, 180, 181, 182, 183, 184, 185, 186, 187, 188, 189, 190, 191, 192, 193, 194, 195, 196, 197, 198, 199, 200, 201, 202, 203, 204] (by decide +kernel) (by decide +kernel)
set_option maxRecDepth 20000 in
theorem gX9_ask_X9_many : GoodIn wsX9_ask (wsV RX9 343 RX9 yX9_many wsX9_many) := goodIn_app (goodIn_of _ (by decide +kernel)) ggX9_ask_X9_many
theorem dX9_ask_0 : decode cX9_ask 0 = .ok (.iload_n 1, 1) := by decide +kernel
theorem dX9_ask_1 : decode cX9_ask 1 = .ok (.iconst 0, 1) := by decide +kernel
theorem dX9_ask_2 : decode cX9_ask 2 = .ok (.iconst 1, 1) := by decide +kernel
theorem dX9_ask_3 : decode cX9_ask 3 = .ok (.invokestatic 346, 3) := by decide +kernel
theorem dX9_ask_6 : decode cX9_ask 6 = .ok (.ifCond .ne 5, 3) := by decide +kernel
theorem dX9_ask_9 : decode cX9_ask 9 = .ok (.iconst (-1), 1) := by decide +kernel
theorem dX9_ask_10 : decode cX9_ask 10 = .ok (.ireturn, 1) := by decide +kernel
theorem dX9_ask_11 : decode cX9_ask 11 = .ok (.aload_n 0, 1) := by decide +kernel
theorem dX9_ask_12 : decode cX9_ask 12 = .ok (.iload_n 2, 1) := by decide +kernel
theorem dX9_ask_13 : decode cX9_ask 13 = .ok (.invokevirtual 500, 3) := by decide +kernel
theorem dX9_ask_16 : decode cX9_ask 16 = .ok (.iconst (-1), 1) := by decide +kernel
theorem dX9_ask_17 : decode cX9_ask 17 = .ok (.istore_n 3, 1) := by decide +kernel
theorem dX9_ask_18 : decode cX9_ask 18 = .ok (.iconst 0, 1) := by decide +kernel
theorem dX9_ask_19 : decode cX9_ask 19 = .ok (.istore 4, 2) := by decide +kernel
theorem dX9_ask_21 : decode cX9_ask 21 = .ok (.iload 4, 2) := by decide +kernel
theorem dX9_ask_23 : decode cX9_ask 23 = .ok (.aload_n 0, 1) := by decide +kernel
theorem dX9_ask_24 : decode cX9_ask 24 = .ok (.invokevirtual 343, 3) := by decide +kernel
theorem dX9_ask_27 : decode cX9_ask 27 = .ok (.if_icmp .ge 39, 3) := by decide +kernel
theorem dX9_ask_66 : decode cX9_ask 66 = .ok (.iload_n 3, 1) := by decide +kernel
theorem dX9_ask_67 : decode cX9_ask 67 = .ok (.ifCond .lt 10, 3) := by decide +kernel
theorem dX9_ask_77 : decode cX9_ask 77 = .ok (.iconst (-1), 1) := by decide +kernel
theorem dX9_ask_78 : decode cX9_ask 78 = .ok (.goto 16, 3) := by decide +kernel
theorem dX9_ask_94 : decode cX9_ask 94 = .ok (.ireturn, 1) := by decide +kernel
set_option maxRecDepth 20000 in
theorem ggX9_image_X9_isIn : GoodIn wsX9_image wsX9_isIn := goodIn_r _ [7] (by decide +kernel) (by decide +kernel)
set_option maxRecDepth 20000 in
theorem gX9_image_X9_isIn : GoodIn wsX9_image (va_wsS RX9 346 yX9_isIn wsX9_isIn) := goodIn_app (goodIn_of _ (by decide +kernel)) ggX9_image_X9_isIn
theorem dX9_image_0 : decode cX9_image 0 = .ok (.iload_n 1, 1) := by decide +kernel
theorem dX9_image_1 : decode cX9_image 1 = .ok (.iconst 0, 1) := by decide +kernel
theorem dX9_image_2 : decode cX9_image 2 = .ok (.iconst 2, 1) := by decide +kernel
theorem dX9_image_3 : decode cX9_image 3 = .ok (.invokestatic 346, 3) := by decide +kernel
theorem dX9_image_6 : decode cX9_image 6 = .ok (.ifCond .ne 5, 3) := by decide +kernel
theorem dX9_image_9 : decode cX9_image 9 = .ok (.iconst (-1), 1) := by decide +kernel
theorem dX9_image_10 : decode cX9_image 10 = .ok (.ireturn, 1) := by decide +kernel
theorem dX9_image_11 : decode cX9_image 11 = .ok (.iconst 0, 1) := by decide +kernel
theorem dX9_image_12 : decode cX9_image 12 = .ok (.istore_n 2, 1) := by decide +kernel
theorem dX9_image_13 : decode cX9_image 13 = .ok (.iload_n 2, 1) := by decide +kernel
theorem dX9_image_14 : decode cX9_image 14 = .ok (.bipush 16, 2) := by decide +kernel
theorem dX9_image_16 : decode cX9_image 16 = .ok (.if_icmp .ge 26, 3) := by decide +kernel
theorem dX9_image_19 : decode cX9_image 19 = .ok (.aload_n 0, 1) := by decide +kernel
theorem dX9_image_20 : decode cX9_image 20 = .ok (.getfield 125, 3) := by decide +kernel
theorem dX9_image_23 : decode cX9_image 23 = .ok (.bipush 16, 2) := by decide +kernel
theorem dX9_image_25 : decode cX9_image 25 = .ok (.iload_n 1, 1) := by decide +kernel
theorem dX9_image_26 : decode cX9_image 26 = .ok (.imul, 1) := by decide +kernel
theorem dX9_image_27 : decode cX9_image 27 = .ok (.iload_n 2, 1) := by decide +kernel
theorem dX9_image_28 : decode cX9_image 28 = .ok (.iadd, 1) := by decide +kernel
theorem dX9_image_29 : decode cX9_image 29 = .ok (.aload_n 0, 1) := by decide +kernel
theorem dX9_image_30 : decode cX9_image 30 = .ok (.getfield 76, 3) := by decide +kernel
theorem dX9_image_33 : decode cX9_image 33 = .ok (.iload_n 2, 1) := by decide +kernel
theorem dX9_image_34 : decode cX9_image 34 = .ok (.iaload, 1) := by decide +kernel
theorem dX9_image_35 : decode cX9_image 35 = .ok (.iastore, 1) := by decide +kernel
theorem dX9_image_36 : decode cX9_image 36 = .ok (.iinc 2 1, 3) := by decide +kernel
theorem dX9_image_39 : decode cX9_image 39 = .ok (.goto (-26), 3) := by decide +kernel
theorem dX9_image_42 : decode cX9_image 42 = .ok (.aload_n 0, 1) := by decide +kernel
theorem dX9_image_43 : decode cX9_image 43 = .ok (.getfield 128, 3) := by decide +kernel
theorem dX9_image_46 : decode cX9_image 46 = .ok (.iload_n 1, 1) := by decide +kernel
theorem dX9_image_47 : decode cX9_image 47 = .ok (.iconst 1, 1) := by decide +kernel
theorem dX9_image_48 : decode cX9_image 48 = .ok (.bastore, 1) := by decide +kernel
theorem dX9_image_49 : decode cX9_image 49 = .ok (.aload_n 0, 1) := by decide +kernel
theorem dX9_image_50 : decode cX9_image 50 = .ok (.getfield 76, 3) := by decide +kernel
theorem dX9_image_53 : decode cX9_image 53 = .ok (.bipush 14, 2) := by decide +kernel
theorem dX9_image_55 : decode cX9_image 55 = .ok (.iaload, 1) := by decide +kernel
theorem dX9_image_56 : decode cX9_image 56 = .ok (.ireturn, 1) := by decide +kernel
set_option maxRecDepth 20000 in
theorem ggX9_back_X9_isIn : GoodIn wsX9_back wsX9_isIn := goodIn_r _ [9] (by decide +kernel) (by decide +kernel)
set_option maxRecDepth 20000 in
theorem gX9_back_X9_isIn : GoodIn wsX9_back (va_wsS RX9 346 yX9_isIn wsX9_isIn) := goodIn_app (goodIn_of _ (by decide +kernel)) ggX9_back_X9_isIn
theorem dX9_back_0 : decode cX9_back 0 = .ok (.iload_n 1, 1) := by decide +kernel
theorem dX9_back_1 : decode cX9_back 1 = .ok (.iconst 0, 1) := by decide +kernel
theorem dX9_back_2 : decode cX9_back 2 = .ok (.iconst 2, 1) := by decide +kernel
theorem dX9_back_3 : decode cX9_back 3 = .ok (.invokestatic 346, 3) := by decide +kernel
theorem dX9_back_6 : decode cX9_back 6 = .ok (.ifCond .eq 12, 3) := by decide +kernel
theorem dX9_back_9 : decode cX9_back 9 = .ok (.aload_n 0, 1) := by decide +kernel
theorem dX9_back_10 : decode cX9_back 10 = .ok (.getfield 128, 3) := by decide +kernel
theorem dX9_back_13 : decode cX9_back 13 = .ok (.iload_n 1, 1) := by decide +kernel
theorem dX9_back_14 : decode cX9_back 14 = .ok (.baload, 1) := by decide +kernel
theorem dX9_back_15 : decode cX9_back 15 = .ok (.ifCond .ne 5, 3) := by decide +kernel
theorem dX9_back_18 : decode cX9_back 18 = .ok (.iconst (-1), 1) := by decide +kernel
theorem dX9_back_19 : decode cX9_back 19 = .ok (.ireturn, 1) := by decide +kernel
set_option maxRecDepth 20000 in
theorem ggX9_about_X9_many : GoodIn wsX9_about wsX9_many := goodIn_r _ [15, 16, 8, 38, 39, 40, 41, 42, 43, 44, 45, 46, 47, 48, 49, 50, 51, 52, 53, 54, 55, 56, 57, 58, 59, 60, 61, 62, 63, 64, 65, 66, 67, 68, 69, 70, 71, 72, 73, 74, 75, 76, 77, 78, 79, 80, 81, 82, 83, 84, 85, 86, 87, 88, 89, 90, 91, 92, 93, 94, 95, 96, 97, 98, 99, 100, 101] (by decide +kernel) (by decide +kernel)
set_option maxRecDepth 20000 in
theorem gX9_about_X9_many : GoodIn wsX9_about (wsV RX9 343 RX9 yX9_many wsX9_many) := goodIn_app (goodIn_of _ (by decide +kernel)) ggX9_about_X9_many
set_option maxRecDepth 20000 in
theorem ggX9_about_X9_threads : GoodIn wsX9_about wsX9_threads := goodIn_r _ [20, 21, 8, 38, 39, 40, 41, 42, 43, 44, 45, 46, 47, 48, 49, 50, 51, 52, 53, 54, 55, 56, 57, 58, 59, 60, 61, 62, 63, 64, 65, 66, 67, 68, 69, 70, 71, 72, 73, 74, 75, 76, 77, 78, 79, 80, 81, 82, 83, 84, 85, 86, 87, 88, 89, 90, 91, 92, 93, 94, 95, 96, 97, 98, 99, 100, 101] (by decide +kernel) (by decide +kernel)
set_option maxRecDepth 20000 in
theorem gX9_about_X9_threads : GoodIn wsX9_about (wsV RX9 350 RX9 yX9_threads wsX9_threads) := goodIn_app (goodIn_of _ (by decide +kernel)) ggX9_about_X9_threads
set_option maxRecDepth 20000 in
theorem ggX9_about_X9_facts : GoodIn wsX9_about wsX9_facts := goodIn_r _ [25, 11, 12, 13, 14, 15, 16, 8, 26, 27, 28, 29, 30, 31, 32, 33, 34, 35, 36, 37, 38, 39, 40, 41, 42, 43, 44, 45, 46, 47, 48, 49, 50, 51, 52, 53, 54, 55, 56, 57, 58, 59, 60, 61, 62, 63, 64, 65, 66, 67, 68, 69, 70, 71, 72, 73, 74, 75, 76, 77, 78, 79, 80, 81, 82, 83, 84, 85, 86, 87, 88, 89, 90, 91, 92, 93, 94, 95, 96, 97, 98, 99, 100, 101] (by decide +kernel) (by decide +kernel)
set_option maxRecDepth 20000 in
theorem gX9_about_X9_facts : GoodIn wsX9_about (wsV RX9 362 RX9 yX9_facts wsX9_facts) := goodIn_app (goodIn_of _ (by decide +kernel)) ggX9_about_X9_facts
theorem dX9_about_0 : decode cX9_about 0 = .ok (.iload_n 1, 1) := by decide +kernel
theorem dX9_about_1 : decode cX9_about 1 = .ok (.tableswitch 170 0 14 #[75, 80, 85, 90, 97, 104, 112, 120, 125, 130, 135, 140, 145, 155, 165], 75) := by decide +kernel
theorem dX9_about_76 : decode cX9_about 76 = .ok (.aload_n 0, 1) := by decide +kernel
theorem dX9_about_77 : decode cX9_about 77 = .ok (.invokevirtual 343, 3) := by decide +kernel
theorem dX9_about_80 : decode cX9_about 80 = .ok (.ireturn, 1) := by decide +kernel
theorem dX9_about_81 : decode cX9_about 81 = .ok (.aload_n 0, 1) := by decide +kernel
theorem dX9_about_82 : decode cX9_about 82 = .ok (.invokevirtual 350, 3) := by decide +kernel
theorem dX9_about_85 : decode cX9_about 85 = .ok (.ireturn, 1) := by decide +kernel
theorem dX9_about_86 : decode cX9_about 86 = .ok (.aload_n 0, 1) := by decide +kernel
theorem dX9_about_87 : decode cX9_about 87 = .ok (.invokevirtual 362, 3) := by decide +kernel
theorem dX9_about_90 : decode cX9_about 90 = .ok (.ireturn, 1) := by decide +kernel
theorem dX9_about_91 : decode cX9_about 91 = .ok (.aload_n 0, 1) := by decide +kernel
theorem dX9_about_92 : decode cX9_about 92 = .ok (.getfield 76, 3) := by decide +kernel
theorem dX9_about_95 : decode cX9_about 95 = .ok (.iconst 0, 1) := by decide +kernel
theorem dX9_about_96 : decode cX9_about 96 = .ok (.iaload, 1) := by decide +kernel
theorem dX9_about_97 : decode cX9_about 97 = .ok (.ireturn, 1) := by decide +kernel
theorem dX9_about_98 : decode cX9_about 98 = .ok (.aload_n 0, 1) := by decide +kernel
theorem dX9_about_99 : decode cX9_about 99 = .ok (.getfield 76, 3) := by decide +kernel
theorem dX9_about_102 : decode cX9_about 102 = .ok (.iconst 1, 1) := by decide +kernel
theorem dX9_about_103 : decode cX9_about 103 = .ok (.iaload, 1) := by decide +kernel
theorem dX9_about_104 : decode cX9_about 104 = .ok (.ireturn, 1) := by decide +kernel
theorem dX9_about_105 : decode cX9_about 105 = .ok (.aload_n 0, 1) := by decide +kernel
theorem dX9_about_106 : decode cX9_about 106 = .ok (.getfield 76, 3) := by decide +kernel
theorem dX9_about_109 : decode cX9_about 109 = .ok (.bipush 14, 2) := by decide +kernel
theorem dX9_about_111 : decode cX9_about 111 = .ok (.iaload, 1) := by decide +kernel
theorem dX9_about_112 : decode cX9_about 112 = .ok (.ireturn, 1) := by decide +kernel
theorem dX9_about_113 : decode cX9_about 113 = .ok (.aload_n 0, 1) := by decide +kernel
theorem dX9_about_114 : decode cX9_about 114 = .ok (.getfield 76, 3) := by decide +kernel
theorem dX9_about_117 : decode cX9_about 117 = .ok (.bipush 15, 2) := by decide +kernel
theorem dX9_about_119 : decode cX9_about 119 = .ok (.iaload, 1) := by decide +kernel
theorem dX9_about_120 : decode cX9_about 120 = .ok (.ireturn, 1) := by decide +kernel
theorem dX9_about_121 : decode cX9_about 121 = .ok (.aload_n 0, 1) := by decide +kernel
theorem dX9_about_122 : decode cX9_about 122 = .ok (.getfield 368, 3) := by decide +kernel
theorem dX9_about_125 : decode cX9_about 125 = .ok (.ireturn, 1) := by decide +kernel
theorem dX9_about_126 : decode cX9_about 126 = .ok (.aload_n 0, 1) := by decide +kernel
theorem dX9_about_127 : decode cX9_about 127 = .ok (.getfield 371, 3) := by decide +kernel
theorem dX9_about_130 : decode cX9_about 130 = .ok (.ireturn, 1) := by decide +kernel
theorem dX9_about_131 : decode cX9_about 131 = .ok (.aload_n 0, 1) := by decide +kernel
theorem dX9_about_132 : decode cX9_about 132 = .ok (.getfield 374, 3) := by decide +kernel
theorem dX9_about_135 : decode cX9_about 135 = .ok (.ireturn, 1) := by decide +kernel
theorem dX9_about_136 : decode cX9_about 136 = .ok (.aload_n 0, 1) := by decide +kernel
theorem dX9_about_137 : decode cX9_about 137 = .ok (.getfield 488, 3) := by decide +kernel
theorem dX9_about_140 : decode cX9_about 140 = .ok (.ireturn, 1) := by decide +kernel
theorem dX9_about_141 : decode cX9_about 141 = .ok (.aload_n 0, 1) := by decide +kernel
theorem dX9_about_142 : decode cX9_about 142 = .ok (.getfield 236, 3) := by decide +kernel
theorem dX9_about_145 : decode cX9_about 145 = .ok (.ireturn, 1) := by decide +kernel
theorem dX9_about_146 : decode cX9_about 146 = .ok (.aload_n 0, 1) := by decide +kernel
theorem dX9_about_147 : decode cX9_about 147 = .ok (.getfield 27, 3) := by decide +kernel
theorem dX9_about_150 : decode cX9_about 150 = .ok (.aload_n 0, 1) := by decide +kernel
theorem dX9_about_151 : decode cX9_about 151 = .ok (.getfield 239, 3) := by decide +kernel
theorem dX9_about_154 : decode cX9_about 154 = .ok (.iaload, 1) := by decide +kernel
theorem dX9_about_155 : decode cX9_about 155 = .ok (.ireturn, 1) := by decide +kernel
theorem dX9_about_156 : decode cX9_about 156 = .ok (.aload_n 0, 1) := by decide +kernel
theorem dX9_about_157 : decode cX9_about 157 = .ok (.getfield 30, 3) := by decide +kernel
theorem dX9_about_160 : decode cX9_about 160 = .ok (.aload_n 0, 1) := by decide +kernel
theorem dX9_about_161 : decode cX9_about 161 = .ok (.getfield 239, 3) := by decide +kernel
theorem dX9_about_164 : decode cX9_about 164 = .ok (.iaload, 1) := by decide +kernel
theorem dX9_about_165 : decode cX9_about 165 = .ok (.ireturn, 1) := by decide +kernel
theorem dX9_about_166 : decode cX9_about 166 = .ok (.aload_n 0, 1) := by decide +kernel
theorem dX9_about_167 : decode cX9_about 167 = .ok (.getfield 377, 3) := by decide +kernel
theorem dX9_about_170 : decode cX9_about 170 = .ok (.ireturn, 1) := by decide +kernel
theorem dX9_about_171 : decode cX9_about 171 = .ok (.iconst (-1), 1) := by decide +kernel
theorem dX9_about_172 : decode cX9_about 172 = .ok (.ireturn, 1) := by decide +kernel
theorem dX9_feed_0 : decode cX9_feed 0 = .ok (.aload_n 0, 1) := by decide +kernel
theorem dX9_feed_1 : decode cX9_feed 1 = .ok (.getfield 236, 3) := by decide +kernel
theorem dX9_feed_4 : decode cX9_feed 4 = .ok (.bipush 20, 2) := by decide +kernel
theorem dX9_feed_6 : decode cX9_feed 6 = .ok (.iadd, 1) := by decide +kernel
theorem dX9_feed_7 : decode cX9_feed 7 = .ok (.sipush 1600, 3) := by decide +kernel
theorem dX9_feed_10 : decode cX9_feed 10 = .ok (.if_icmp .le 5, 3) := by decide +kernel
theorem dX9_feed_15 : decode cX9_feed 15 = .ok (.iconst 0, 1) := by decide +kernel
theorem dX9_feed_16 : decode cX9_feed 16 = .ok (.istore 6, 2) := by decide +kernel
theorem dX9_feed_18 : decode cX9_feed 18 = .ok (.iload 6, 2) := by decide +kernel
theorem dX9_feed_20 : decode cX9_feed 20 = .ok (.bipush 20, 2) := by decide +kernel
theorem dX9_feed_22 : decode cX9_feed 22 = .ok (.if_icmp .ge 83, 3) := by decide +kernel
theorem dX9_feed_25 : decode cX9_feed 25 = .ok (.iload 6, 2) := by decide +kernel
theorem dX9_feed_27 : decode cX9_feed 27 = .ok (.iconst 4, 1) := by decide +kernel
theorem dX9_feed_28 : decode cX9_feed 28 = .ok (.if_icmp .ge 7, 3) := by decide +kernel
theorem dX9_feed_31 : decode cX9_feed 31 = .ok (.iload_n 1, 1) := by decide +kernel
theorem dX9_feed_32 : decode cX9_feed 32 = .ok (.goto 39, 3) := by decide +kernel
theorem dX9_feed_35 : decode cX9_feed 35 = .ok (.iload 6, 2) := by decide +kernel
theorem dX9_feed_37 : decode cX9_feed 37 = .ok (.bipush 8, 2) := by decide +kernel
theorem dX9_feed_39 : decode cX9_feed 39 = .ok (.if_icmp .ge 7, 3) := by decide +kernel
theorem dX9_feed_42 : decode cX9_feed 42 = .ok (.iload_n 2, 1) := by decide +kernel
theorem dX9_feed_43 : decode cX9_feed 43 = .ok (.goto 28, 3) := by decide +kernel
theorem dX9_feed_46 : decode cX9_feed 46 = .ok (.iload 6, 2) := by decide +kernel
theorem dX9_feed_48 : decode cX9_feed 48 = .ok (.bipush 12, 2) := by decide +kernel
theorem dX9_feed_50 : decode cX9_feed 50 = .ok (.if_icmp .ge 7, 3) := by decide +kernel
theorem dX9_feed_53 : decode cX9_feed 53 = .ok (.iload_n 3, 1) := by decide +kernel
theorem dX9_feed_54 : decode cX9_feed 54 = .ok (.goto 17, 3) := by decide +kernel
theorem dX9_feed_57 : decode cX9_feed 57 = .ok (.iload 6, 2) := by decide +kernel
theorem dX9_feed_59 : decode cX9_feed 59 = .ok (.bipush 16, 2) := by decide +kernel
theorem dX9_feed_61 : decode cX9_feed 61 = .ok (.if_icmp .ge 8, 3) := by decide +kernel
theorem dX9_feed_64 : decode cX9_feed 64 = .ok (.iload 4, 2) := by decide +kernel
theorem dX9_feed_66 : decode cX9_feed 66 = .ok (.goto 5, 3) := by decide +kernel
theorem dX9_feed_69 : decode cX9_feed 69 = .ok (.iload 5, 2) := by decide +kernel
theorem dX9_feed_71 : decode cX9_feed 71 = .ok (.istore 7, 2) := by decide +kernel
theorem dX9_feed_73 : decode cX9_feed 73 = .ok (.aload_n 0, 1) := by decide +kernel
theorem dX9_feed_74 : decode cX9_feed 74 = .ok (.getfield 7, 3) := by decide +kernel
theorem dX9_feed_77 : decode cX9_feed 77 = .ok (.aload_n 0, 1) := by decide +kernel
theorem dX9_feed_78 : decode cX9_feed 78 = .ok (.getfield 236, 3) := by decide +kernel
theorem dX9_feed_81 : decode cX9_feed 81 = .ok (.iload 6, 2) := by decide +kernel
theorem dX9_feed_83 : decode cX9_feed 83 = .ok (.iadd, 1) := by decide +kernel
theorem dX9_feed_84 : decode cX9_feed 84 = .ok (.iload 7, 2) := by decide +kernel
theorem dX9_feed_86 : decode cX9_feed 86 = .ok (.bipush 24, 2) := by decide +kernel
theorem dX9_feed_88 : decode cX9_feed 88 = .ok (.bipush 8, 2) := by decide +kernel
theorem dX9_feed_90 : decode cX9_feed 90 = .ok (.iload 6, 2) := by decide +kernel
theorem dX9_feed_92 : decode cX9_feed 92 = .ok (.iconst 3, 1) := by decide +kernel
theorem dX9_feed_93 : decode cX9_feed 93 = .ok (.iand, 1) := by decide +kernel
theorem dX9_feed_94 : decode cX9_feed 94 = .ok (.imul, 1) := by decide +kernel
theorem dX9_feed_95 : decode cX9_feed 95 = .ok (.isub, 1) := by decide +kernel
theorem dX9_feed_96 : decode cX9_feed 96 = .ok (.ishr, 1) := by decide +kernel
theorem dX9_feed_97 : decode cX9_feed 97 = .ok (.i2b, 1) := by decide +kernel
theorem dX9_feed_98 : decode cX9_feed 98 = .ok (.bastore, 1) := by decide +kernel
theorem dX9_feed_99 : decode cX9_feed 99 = .ok (.iinc 6 1, 3) := by decide +kernel
theorem dX9_feed_102 : decode cX9_feed 102 = .ok (.goto (-84), 3) := by decide +kernel
theorem dX9_feed_105 : decode cX9_feed 105 = .ok (.aload_n 0, 1) := by decide +kernel
theorem dX9_feed_106 : decode cX9_feed 106 = .ok (.dup, 1) := by decide +kernel
theorem dX9_feed_107 : decode cX9_feed 107 = .ok (.getfield 236, 3) := by decide +kernel
theorem dX9_feed_110 : decode cX9_feed 110 = .ok (.bipush 20, 2) := by decide +kernel
theorem dX9_feed_112 : decode cX9_feed 112 = .ok (.iadd, 1) := by decide +kernel
theorem dX9_feed_113 : decode cX9_feed 113 = .ok (.putfield 236, 3) := by decide +kernel
theorem dX9_feed_116 : decode cX9_feed 116 = .ok (.aload_n 0, 1) := by decide +kernel
theorem dX9_feed_117 : decode cX9_feed 117 = .ok (.getfield 236, 3) := by decide +kernel
theorem dX9_feed_120 : decode cX9_feed 120 = .ok (.ireturn, 1) := by decide +kernel
theorem dX9_end_0 : decode cX9_end 0 = .ok (.iload_n 1, 1) := by decide +kernel
theorem dX9_end_1 : decode cX9_end 1 = .ok (.ifCond .lt 11, 3) := by decide +kernel
theorem dX9_end_4 : decode cX9_end 4 = .ok (.iload_n 1, 1) := by decide +kernel
theorem dX9_end_5 : decode cX9_end 5 = .ok (.aload_n 0, 1) := by decide +kernel
theorem dX9_end_6 : decode cX9_end 6 = .ok (.getfield 236, 3) := by decide +kernel
theorem dX9_end_9 : decode cX9_end 9 = .ok (.if_icmp .le 5, 3) := by decide +kernel
theorem dX9_end_12 : decode cX9_end 12 = .ok (.iconst (-1), 1) := by decide +kernel
theorem dX9_end_13 : decode cX9_end 13 = .ok (.ireturn, 1) := by decide +kernel
theorem dX9_end_14 : decode cX9_end 14 = .ok (.aload_n 0, 1) := by decide +kernel
theorem dX9_end_15 : decode cX9_end 15 = .ok (.iload_n 1, 1) := by decide +kernel
theorem dX9_end_16 : decode cX9_end 16 = .ok (.putfield 236, 3) := by decide +kernel
theorem dX9_end_19 : decode cX9_end 19 = .ok (.iload_n 1, 1) := by decide +kernel
theorem dX9_end_20 : decode cX9_end 20 = .ok (.ireturn, 1) := by decide +kernel
theorem dJ6_bitCount_0f7a4_0 : decode cJ6_bitCount_0f7a4 0 = .ok (.iload_n 0, 1) := by decide +kernel
theorem dJ6_bitCount_0f7a4_1 : decode cJ6_bitCount_0f7a4 1 = .ok (.iload_n 0, 1) := by decide +kernel
theorem dJ6_bitCount_0f7a4_2 : decode cJ6_bitCount_0f7a4 2 = .ok (.iconst 1, 1) := by decide +kernel
theorem dJ6_bitCount_0f7a4_3 : decode cJ6_bitCount_0f7a4 3 = .ok (.iushr, 1) := by decide +kernel
theorem dJ6_bitCount_0f7a4_4 : decode cJ6_bitCount_0f7a4 4 = .ok (.ldc_w 265, 3) := by decide +kernel
theorem dJ6_bitCount_0f7a4_7 : decode cJ6_bitCount_0f7a4 7 = .ok (.iand, 1) := by decide +kernel
theorem dJ6_bitCount_0f7a4_8 : decode cJ6_bitCount_0f7a4 8 = .ok (.isub, 1) := by decide +kernel
theorem dJ6_bitCount_0f7a4_9 : decode cJ6_bitCount_0f7a4 9 = .ok (.istore_n 0, 1) := by decide +kernel
theorem dJ6_bitCount_0f7a4_10 : decode cJ6_bitCount_0f7a4 10 = .ok (.iload_n 0, 1) := by decide +kernel
theorem dJ6_bitCount_0f7a4_11 : decode cJ6_bitCount_0f7a4 11 = .ok (.ldc_w 266, 3) := by decide +kernel
theorem dJ6_bitCount_0f7a4_14 : decode cJ6_bitCount_0f7a4 14 = .ok (.iand, 1) := by decide +kernel
theorem dJ6_bitCount_0f7a4_15 : decode cJ6_bitCount_0f7a4 15 = .ok (.iload_n 0, 1) := by decide +kernel
theorem dJ6_bitCount_0f7a4_16 : decode cJ6_bitCount_0f7a4 16 = .ok (.iconst 2, 1) := by decide +kernel
theorem dJ6_bitCount_0f7a4_17 : decode cJ6_bitCount_0f7a4 17 = .ok (.iushr, 1) := by decide +kernel
theorem dJ6_bitCount_0f7a4_18 : decode cJ6_bitCount_0f7a4 18 = .ok (.ldc_w 266, 3) := by decide +kernel
theorem dJ6_bitCount_0f7a4_21 : decode cJ6_bitCount_0f7a4 21 = .ok (.iand, 1) := by decide +kernel
theorem dJ6_bitCount_0f7a4_22 : decode cJ6_bitCount_0f7a4 22 = .ok (.iadd, 1) := by decide +kernel
theorem dJ6_bitCount_0f7a4_23 : decode cJ6_bitCount_0f7a4 23 = .ok (.istore_n 0, 1) := by decide +kernel
theorem dJ6_bitCount_0f7a4_24 : decode cJ6_bitCount_0f7a4 24 = .ok (.iload_n 0, 1) := by decide +kernel
theorem dJ6_bitCount_0f7a4_25 : decode cJ6_bitCount_0f7a4 25 = .ok (.iload_n 0, 1) := by decide +kernel
theorem dJ6_bitCount_0f7a4_26 : decode cJ6_bitCount_0f7a4 26 = .ok (.iconst 4, 1) := by decide +kernel
theorem dJ6_bitCount_0f7a4_27 : decode cJ6_bitCount_0f7a4 27 = .ok (.iushr, 1) := by decide +kernel
theorem dJ6_bitCount_0f7a4_28 : decode cJ6_bitCount_0f7a4 28 = .ok (.iadd, 1) := by decide +kernel
theorem dJ6_bitCount_0f7a4_29 : decode cJ6_bitCount_0f7a4 29 = .ok (.ldc_w 267, 3) := by decide +kernel
theorem dJ6_bitCount_0f7a4_32 : decode cJ6_bitCount_0f7a4 32 = .ok (.iand, 1) := by decide +kernel
theorem dJ6_bitCount_0f7a4_33 : decode cJ6_bitCount_0f7a4 33 = .ok (.istore_n 0, 1) := by decide +kernel
theorem dJ6_bitCount_0f7a4_34 : decode cJ6_bitCount_0f7a4 34 = .ok (.iload_n 0, 1) := by decide +kernel
theorem dJ6_bitCount_0f7a4_35 : decode cJ6_bitCount_0f7a4 35 = .ok (.iload_n 0, 1) := by decide +kernel
theorem dJ6_bitCount_0f7a4_36 : decode cJ6_bitCount_0f7a4 36 = .ok (.bipush 8, 2) := by decide +kernel
theorem dJ6_bitCount_0f7a4_38 : decode cJ6_bitCount_0f7a4 38 = .ok (.iushr, 1) := by decide +kernel
theorem dJ6_bitCount_0f7a4_39 : decode cJ6_bitCount_0f7a4 39 = .ok (.iadd, 1) := by decide +kernel
theorem dJ6_bitCount_0f7a4_40 : decode cJ6_bitCount_0f7a4 40 = .ok (.istore_n 0, 1) := by decide +kernel
theorem dJ6_bitCount_0f7a4_41 : decode cJ6_bitCount_0f7a4 41 = .ok (.iload_n 0, 1) := by decide +kernel
theorem dJ6_bitCount_0f7a4_42 : decode cJ6_bitCount_0f7a4 42 = .ok (.iload_n 0, 1) := by decide +kernel
theorem dJ6_bitCount_0f7a4_43 : decode cJ6_bitCount_0f7a4 43 = .ok (.bipush 16, 2) := by decide +kernel
theorem dJ6_bitCount_0f7a4_45 : decode cJ6_bitCount_0f7a4 45 = .ok (.iushr, 1) := by decide +kernel
theorem dJ6_bitCount_0f7a4_46 : decode cJ6_bitCount_0f7a4 46 = .ok (.iadd, 1) := by decide +kernel
theorem dJ6_bitCount_0f7a4_47 : decode cJ6_bitCount_0f7a4 47 = .ok (.istore_n 0, 1) := by decide +kernel
theorem dJ6_bitCount_0f7a4_48 : decode cJ6_bitCount_0f7a4 48 = .ok (.iload_n 0, 1) := by decide +kernel
theorem dJ6_bitCount_0f7a4_49 : decode cJ6_bitCount_0f7a4 49 = .ok (.bipush 63, 2) := by decide +kernel
theorem dJ6_bitCount_0f7a4_51 : decode cJ6_bitCount_0f7a4 51 = .ok (.iand, 1) := by decide +kernel
theorem dJ6_bitCount_0f7a4_52 : decode cJ6_bitCount_0f7a4 52 = .ok (.ireturn, 1) := by decide +kernel
