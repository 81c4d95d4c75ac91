theorem dX9_pushE_0 : decode cX9_pushE 0 = .ok (.aload_n 0, 1) := by decide +kernel
theorem dX9_pushE_1 : decode cX9_pushE 1 = .ok (.getfield 67, 3) := by decide +kernel
theorem dX9_pushE_4 : decode cX9_pushE 4 = .ok (.aload_n 0, 1) := by decide +kernel
theorem dX9_pushE_5 : decode cX9_pushE 5 = .ok (.getfield 285, 3) := by decide +kernel
theorem dX9_pushE_8 : decode cX9_pushE 8 = .ok (.iload_n 1, 1) := by decide +kernel
theorem dX9_pushE_9 : decode cX9_pushE 9 = .ok (.iastore, 1) := by decide +kernel
theorem dX9_pushE_10 : decode cX9_pushE 10 = .ok (.aload_n 0, 1) := by decide +kernel
theorem dX9_pushE_11 : decode cX9_pushE 11 = .ok (.getfield 70, 3) := by decide +kernel
theorem dX9_pushE_14 : decode cX9_pushE 14 = .ok (.aload_n 0, 1) := by decide +kernel
theorem dX9_pushE_15 : decode cX9_pushE 15 = .ok (.getfield 285, 3) := by decide +kernel
theorem dX9_pushE_18 : decode cX9_pushE 18 = .ok (.iload_n 2, 1) := by decide +kernel
theorem dX9_pushE_19 : decode cX9_pushE 19 = .ok (.iastore, 1) := by decide +kernel
theorem dX9_pushE_20 : decode cX9_pushE 20 = .ok (.aload_n 0, 1) := by decide +kernel
theorem dX9_pushE_21 : decode cX9_pushE 21 = .ok (.dup, 1) := by decide +kernel
theorem dX9_pushE_22 : decode cX9_pushE 22 = .ok (.getfield 285, 3) := by decide +kernel
theorem dX9_pushE_25 : decode cX9_pushE 25 = .ok (.iconst 1, 1) := by decide +kernel
theorem dX9_pushE_26 : decode cX9_pushE 26 = .ok (.iadd, 1) := by decide +kernel
theorem dX9_pushE_27 : decode cX9_pushE 27 = .ok (.putfield 285, 3) := by decide +kernel
theorem dX9_pushE_30 : decode cX9_pushE 30 = .ok (.return_, 1) := by decide +kernel
set_option maxRecDepth 20000 in
theorem ggX9_wordHere_X9_isWord : GoodIn wsX9_wordHere wsX9_isWord := goodIn_r _ [10, 11, 12, 13, 14, 15, 16, 17, 18, 19, 20, 21, 22, 23, 24, 25, 26, 27, 28, 29, 30, 31, 32, 33, 34, 35, 36, 37, 38, 39, 40, 41, 42, 43, 44, 45, 46, 47, 48, 49, 50, 51, 52, 53, 54, 55, 56, 57, 58, 59, 60, 61, 62, 63, 64, 65, 66, 67, 68, 69, 70, 71, 72, 73, 74, 75, 76] rfl rfl
set_option maxRecDepth 20000 in
theorem gX9_wordHere_X9_isWord : GoodIn wsX9_wordHere (wsV RX9 219 RX9 yX9_isWord wsX9_isWord) := goodIn_app (goodIn_of _ (by decide +kernel)) ggX9_wordHere_X9_isWord
theorem dX9_wordHere_0 : decode cX9_wordHere 0 = .ok (.aload_n 0, 1) := by decide +kernel
theorem dX9_wordHere_1 : decode cX9_wordHere 1 = .ok (.ldc2_w 151, 3) := by decide +kernel
theorem dX9_wordHere_4 : decode cX9_wordHere 4 = .ok (.invokevirtual 219, 3) := by decide +kernel
theorem dX9_wordHere_7 : decode cX9_wordHere 7 = .ok (.ifCond .eq 6, 3) := by decide +kernel
theorem dX9_wordHere_10 : decode cX9_wordHere 10 = .ok (.bipush 115, 2) := by decide +kernel
theorem dX9_wordHere_12 : decode cX9_wordHere 12 = .ok (.ireturn, 1) := by decide +kernel
theorem dX9_wordHere_13 : decode cX9_wordHere 13 = .ok (.aload_n 0, 1) := by decide +kernel
theorem dX9_wordHere_14 : decode cX9_wordHere 14 = .ok (.ldc2_w 159, 3) := by decide +kernel
theorem dX9_wordHere_17 : decode cX9_wordHere 17 = .ok (.invokevirtual 219, 3) := by decide +kernel
theorem dX9_wordHere_20 : decode cX9_wordHere 20 = .ok (.ifCond .eq 6, 3) := by decide +kernel
theorem dX9_wordHere_23 : decode cX9_wordHere 23 = .ok (.bipush 103, 2) := by decide +kernel
theorem dX9_wordHere_25 : decode cX9_wordHere 25 = .ok (.ireturn, 1) := by decide +kernel
theorem dX9_wordHere_26 : decode cX9_wordHere 26 = .ok (.aload_n 0, 1) := by decide +kernel
theorem dX9_wordHere_27 : decode cX9_wordHere 27 = .ok (.ldc2_w 161, 3) := by decide +kernel
theorem dX9_wordHere_30 : decode cX9_wordHere 30 = .ok (.invokevirtual 219, 3) := by decide +kernel
theorem dX9_wordHere_33 : decode cX9_wordHere 33 = .ok (.ifCond .eq 6, 3) := by decide +kernel
theorem dX9_wordHere_36 : decode cX9_wordHere 36 = .ok (.bipush 98, 2) := by decide +kernel
theorem dX9_wordHere_38 : decode cX9_wordHere 38 = .ok (.ireturn, 1) := by decide +kernel
theorem dX9_wordHere_39 : decode cX9_wordHere 39 = .ok (.aload_n 0, 1) := by decide +kernel
theorem dX9_wordHere_40 : decode cX9_wordHere 40 = .ok (.ldc2_w 147, 3) := by decide +kernel
theorem dX9_wordHere_43 : decode cX9_wordHere 43 = .ok (.invokevirtual 219, 3) := by decide +kernel
theorem dX9_wordHere_46 : decode cX9_wordHere 46 = .ok (.ifCond .eq 6, 3) := by decide +kernel
theorem dX9_wordHere_49 : decode cX9_wordHere 49 = .ok (.bipush 101, 2) := by decide +kernel
theorem dX9_wordHere_51 : decode cX9_wordHere 51 = .ok (.ireturn, 1) := by decide +kernel
theorem dX9_wordHere_52 : decode cX9_wordHere 52 = .ok (.aload_n 0, 1) := by decide +kernel
theorem dX9_wordHere_53 : decode cX9_wordHere 53 = .ok (.ldc2_w 163, 3) := by decide +kernel
theorem dX9_wordHere_56 : decode cX9_wordHere 56 = .ok (.invokevirtual 219, 3) := by decide +kernel
theorem dX9_wordHere_59 : decode cX9_wordHere 59 = .ok (.ifCond .eq 8, 3) := by decide +kernel
theorem dX9_wordHere_62 : decode cX9_wordHere 62 = .ok (.bipush 100, 2) := by decide +kernel
theorem dX9_wordHere_64 : decode cX9_wordHere 64 = .ok (.goto 4, 3) := by decide +kernel
theorem dX9_wordHere_67 : decode cX9_wordHere 67 = .ok (.iconst 0, 1) := by decide +kernel
theorem dX9_wordHere_68 : decode cX9_wordHere 68 = .ok (.ireturn, 1) := by decide +kernel
set_option maxRecDepth 20000 in
theorem ggX9_unit_X9_isWord : GoodIn wsX9_unit wsX9_isWord := goodIn_r _ [14, 7, 15, 87, 88, 89, 90, 91, 92, 93, 94, 95, 96, 97, 98, 99, 100, 101, 102, 103, 104, 105, 106, 107, 108, 109, 110, 111, 112, 113, 114, 115, 116, 117, 118, 119, 120, 121, 122, 123, 124, 125, 126, 127, 128, 129, 130, 131, 132, 133, 134, 135, 136, 137, 138, 139, 140, 141, 142, 143, 144, 145, 146, 147, 148, 149, 150] rfl rfl
set_option maxRecDepth 20000 in
theorem gX9_unit_X9_isWord : GoodIn wsX9_unit (wsV RX9 219 RX9 yX9_isWord wsX9_isWord) := goodIn_app (goodIn_of _ (by decide +kernel)) ggX9_unit_X9_isWord
set_option maxRecDepth 20000 in
theorem ggX9_unit_X9_isSignHere : GoodIn wsX9_unit wsX9_isSignHere := goodIn_r _ [19, 7, 20, 21, 22, 23, 13, 24, 25, 26, 87, 88, 89, 90, 91, 92, 93, 94, 95, 96, 97, 98, 99, 100, 101, 102, 103, 104, 105, 106, 107, 108, 109, 110, 111, 112, 113, 114, 115, 116, 117, 118, 119, 120, 121, 122, 123, 124, 125, 126, 127, 128, 129, 130, 131, 132, 133, 134, 135, 136, 137, 138, 139, 140, 141, 142, 143, 144, 145, 146, 147, 148, 149, 150] rfl rfl
set_option maxRecDepth 20000 in
theorem gX9_unit_X9_isSignHere : GoodIn wsX9_unit (wsV RX9 269 RX9 yX9_isSignHere wsX9_isSignHere) := goodIn_app (goodIn_of _ (by decide +kernel)) ggX9_unit_X9_isSignHere
set_option maxRecDepth 20000 in
theorem ggX9_unit_X9_wordHere : GoodIn wsX9_unit wsX9_wordHere := goodIn_r _ [30, 31, 32, 33, 34, 35, 10, 11, 12, 13, 14, 7, 15, 87, 88, 89, 90, 91, 92, 93, 94, 95, 96, 97, 98, 99, 100, 101, 102, 103, 104, 105, 106, 107, 108, 109, 110, 111, 112, 113, 114, 115, 116, 117, 118, 119, 120, 121, 122, 123, 124, 125, 126, 127, 128, 129, 130, 131, 132, 133, 134, 135, 136, 137, 138, 139, 140, 141, 142, 143, 144, 145, 146, 147, 148, 149, 150] rfl rfl
set_option maxRecDepth 20000 in
theorem gX9_unit_X9_wordHere : GoodIn wsX9_unit (wsV RX9 300 RX9 yX9_wordHere wsX9_wordHere) := goodIn_app (goodIn_of _ (by decide +kernel)) ggX9_unit_X9_wordHere
set_option maxRecDepth 20000 in
theorem ggX9_unit_X9_misplaced : GoodIn wsX9_unit wsX9_misplaced := goodIn_r _ [39, 7, 20, 40, 41, 42, 13, 43, 44, 45, 87, 88, 89, 90, 91, 92, 93, 94, 95, 96, 97, 98, 99, 100, 101, 102, 103, 104, 105, 106, 107, 108, 109, 110, 111, 112, 113, 114, 115, 116, 117, 118, 119, 120, 121, 122, 123, 124, 125, 126, 127, 128, 129, 130, 131, 132, 133, 134, 135, 136, 137, 138, 139, 140, 141, 142, 143, 144, 145, 146, 147, 148, 149, 150] rfl rfl
set_option maxRecDepth 20000 in
theorem gX9_unit_X9_misplaced : GoodIn wsX9_unit (wsV RX9 216 RX9 yX9_misplaced wsX9_misplaced) := goodIn_app (goodIn_of _ (by decide +kernel)) ggX9_unit_X9_misplaced
set_option maxRecDepth 20000 in
theorem ggX9_unit_X9_isGood : GoodIn wsX9_unit wsX9_isGood := goodIn_r _ [49, 44, 87, 88, 89, 90, 91, 92, 93, 94, 95, 96, 97, 98, 99, 100, 101, 102, 103, 104, 105, 106, 107, 108, 109, 110, 111, 112, 113, 114, 115, 116, 117, 118, 119, 120, 121, 122, 123, 124, 125, 126, 127, 128, 129, 130, 131, 132, 133, 134, 135, 136, 137, 138, 139, 140, 141, 142, 143, 144, 145, 146, 147, 148, 149, 150] rfl rfl
set_option maxRecDepth 20000 in
theorem gX9_unit_X9_isGood : GoodIn wsX9_unit (wsV RX9 209 RX9 yX9_isGood wsX9_isGood) := goodIn_app (goodIn_of _ (by decide +kernel)) ggX9_unit_X9_isGood
set_option maxRecDepth 20000 in
theorem ggX9_unit_X9_goOn : GoodIn wsX9_unit wsX9_goOn := goodIn_r _ [53, 54, 20, 25, 7, 15, 9, 21, 22, 23, 13, 24, 26, 55, 56, 57, 58, 59, 60, 61, 62, 34, 63, 31, 64, 65, 66, 32, 33, 35, 67, 68, 3, 69, 70, 71, 72, 73, 74, 87, 88, 89, 90, 91, 92, 93, 94, 95, 96, 97, 98, 99, 100, 101, 102, 103, 104, 105, 106, 107, 108, 109, 110, 111, 112, 113, 114, 115, 116, 117, 118, 119, 120, 121, 122, 123, 124, 125, 126, 127, 128, 129, 130, 131, 132, 133, 134, 135, 136, 137, 138, 139, 140, 141, 142, 143, 144, 145, 146, 147, 148, 149, 150] rfl rfl
set_option maxRecDepth 20000 in
theorem gX9_unit_X9_goOn : GoodIn wsX9_unit (wsV RX9 213 RX9 yX9_goOn wsX9_goOn) := goodIn_app (goodIn_of _ (by decide +kernel)) ggX9_unit_X9_goOn
set_option maxRecDepth 20000 in
theorem ggX9_unit_X9_pushE : GoodIn wsX9_unit wsX9_pushE := goodIn_r _ [78, 1, 2, 79, 87, 88, 89, 90, 91, 92, 93, 94, 95, 96, 97, 98, 99, 100, 101, 102, 103, 104, 105, 106, 107, 108, 109, 110, 111, 112, 113, 114, 115, 116, 117, 118, 119, 120, 121, 122, 123, 124, 125, 126, 127, 128, 129, 130, 131, 132, 133, 134, 135, 136, 137, 138, 139, 140, 141, 142, 143, 144, 145, 146, 147, 148, 149, 150] rfl rfl
set_option maxRecDepth 20000 in
theorem gX9_unit_X9_pushE : GoodIn wsX9_unit (wsV RX9 291 RX9 yX9_pushE wsX9_pushE) := goodIn_app (goodIn_of _ (by decide +kernel)) ggX9_unit_X9_pushE
set_option maxRecDepth 20000 in
theorem ggX9_unit_X9_emit : GoodIn wsX9_unit wsX9_emit := goodIn_r _ [83, 84, 85, 86, 87, 88, 89, 90, 91, 92, 93, 94, 95, 96, 97, 98, 99, 100, 101, 102, 103, 104, 105, 106, 107, 108, 109, 110, 111, 112, 113, 114, 115, 116, 117, 118, 119, 120, 121, 122, 123, 124, 125, 126, 127, 128, 129, 130, 131, 132, 133, 134, 135, 136, 137, 138, 139, 140, 141, 142, 143, 144, 145, 146, 147, 148, 149, 150] rfl rfl
set_option maxRecDepth 20000 in
theorem gX9_unit_X9_emit : GoodIn wsX9_unit (wsV RX9 303 RX9 yX9_emit wsX9_emit) := goodIn_app (goodIn_of _ (by decide +kernel)) ggX9_unit_X9_emit
theorem dX9_unit_0 : decode cX9_unit 0 = .ok (.aload_n 0, 1) := by decide +kernel
theorem dX9_unit_1 : decode cX9_unit 1 = .ok (.getfield 67, 3) := by decide +kernel
theorem dX9_unit_4 : decode cX9_unit 4 = .ok (.aload_n 0, 1) := by decide +kernel
theorem dX9_unit_5 : decode cX9_unit 5 = .ok (.getfield 285, 3) := by decide +kernel
theorem dX9_unit_8 : decode cX9_unit 8 = .ok (.iconst 1, 1) := by decide +kernel
theorem dX9_unit_9 : decode cX9_unit 9 = .ok (.isub, 1) := by decide +kernel
theorem dX9_unit_10 : decode cX9_unit 10 = .ok (.iaload, 1) := by decide +kernel
theorem dX9_unit_11 : decode cX9_unit 11 = .ok (.iconst 3, 1) := by decide +kernel
theorem dX9_unit_12 : decode cX9_unit 12 = .ok (.if_icmp .le 19, 3) := by decide +kernel
theorem dX9_unit_15 : decode cX9_unit 15 = .ok (.aload_n 0, 1) := by decide +kernel
theorem dX9_unit_16 : decode cX9_unit 16 = .ok (.getfield 67, 3) := by decide +kernel
theorem dX9_unit_19 : decode cX9_unit 19 = .ok (.aload_n 0, 1) := by decide +kernel
theorem dX9_unit_20 : decode cX9_unit 20 = .ok (.getfield 285, 3) := by decide +kernel
theorem dX9_unit_23 : decode cX9_unit 23 = .ok (.iconst 1, 1) := by decide +kernel
theorem dX9_unit_24 : decode cX9_unit 24 = .ok (.isub, 1) := by decide +kernel
theorem dX9_unit_25 : decode cX9_unit 25 = .ok (.iaload, 1) := by decide +kernel
theorem dX9_unit_26 : decode cX9_unit 26 = .ok (.bipush 7, 2) := by decide +kernel
theorem dX9_unit_28 : decode cX9_unit 28 = .ok (.if_icmp .lt 7, 3) := by decide +kernel
theorem dX9_unit_31 : decode cX9_unit 31 = .ok (.iconst 1, 1) := by decide +kernel
theorem dX9_unit_32 : decode cX9_unit 32 = .ok (.goto 4, 3) := by decide +kernel
theorem dX9_unit_35 : decode cX9_unit 35 = .ok (.iconst 0, 1) := by decide +kernel
theorem dX9_unit_36 : decode cX9_unit 36 = .ok (.istore_n 1, 1) := by decide +kernel
theorem dX9_unit_37 : decode cX9_unit 37 = .ok (.iload_n 1, 1) := by decide +kernel
theorem dX9_unit_38 : decode cX9_unit 38 = .ok (.ifCond .eq 17, 3) := by decide +kernel
theorem dX9_unit_41 : decode cX9_unit 41 = .ok (.aload_n 0, 1) := by decide +kernel
theorem dX9_unit_42 : decode cX9_unit 42 = .ok (.ldc2_w 169, 3) := by decide +kernel
theorem dX9_unit_45 : decode cX9_unit 45 = .ok (.invokevirtual 219, 3) := by decide +kernel
theorem dX9_unit_48 : decode cX9_unit 48 = .ok (.ifCond .eq 7, 3) := by decide +kernel
theorem dX9_unit_51 : decode cX9_unit 51 = .ok (.iconst 1, 1) := by decide +kernel
theorem dX9_unit_52 : decode cX9_unit 52 = .ok (.goto 4, 3) := by decide +kernel
theorem dX9_unit_55 : decode cX9_unit 55 = .ok (.iconst 0, 1) := by decide +kernel
theorem dX9_unit_56 : decode cX9_unit 56 = .ok (.istore_n 2, 1) := by decide +kernel
theorem dX9_unit_57 : decode cX9_unit 57 = .ok (.aload_n 0, 1) := by decide +kernel
theorem dX9_unit_58 : decode cX9_unit 58 = .ok (.bipush 40, 2) := by decide +kernel
theorem dX9_unit_60 : decode cX9_unit 60 = .ok (.invokevirtual 269, 3) := by decide +kernel
theorem dX9_unit_63 : decode cX9_unit 63 = .ok (.istore_n 3, 1) := by decide +kernel
theorem dX9_unit_64 : decode cX9_unit 64 = .ok (.aload_n 0, 1) := by decide +kernel
theorem dX9_unit_65 : decode cX9_unit 65 = .ok (.invokevirtual 300, 3) := by decide +kernel
theorem dX9_unit_68 : decode cX9_unit 68 = .ok (.istore 4, 2) := by decide +kernel
theorem dX9_unit_70 : decode cX9_unit 70 = .ok (.aload_n 0, 1) := by decide +kernel
theorem dX9_unit_71 : decode cX9_unit 71 = .ok (.getfield 27, 3) := by decide +kernel
theorem dX9_unit_74 : decode cX9_unit 74 = .ok (.aload_n 0, 1) := by decide +kernel
theorem dX9_unit_75 : decode cX9_unit 75 = .ok (.getfield 230, 3) := by decide +kernel
theorem dX9_unit_78 : decode cX9_unit 78 = .ok (.iaload, 1) := by decide +kernel
theorem dX9_unit_79 : decode cX9_unit 79 = .ok (.bipush 60, 2) := by decide +kernel
theorem dX9_unit_81 : decode cX9_unit 81 = .ok (.if_icmp .eq 12, 3) := by decide +kernel
theorem dX9_unit_84 : decode cX9_unit 84 = .ok (.aload_n 0, 1) := by decide +kernel
theorem dX9_unit_85 : decode cX9_unit 85 = .ok (.getfield 279, 3) := by decide +kernel
theorem dX9_unit_88 : decode cX9_unit 88 = .ok (.bipush 30, 2) := by decide +kernel
theorem dX9_unit_90 : decode cX9_unit 90 = .ok (.if_icmp .ne 7, 3) := by decide +kernel
theorem dX9_unit_93 : decode cX9_unit 93 = .ok (.iconst 1, 1) := by decide +kernel
theorem dX9_unit_94 : decode cX9_unit 94 = .ok (.goto 4, 3) := by decide +kernel
theorem dX9_unit_97 : decode cX9_unit 97 = .ok (.iconst 0, 1) := by decide +kernel
theorem dX9_unit_98 : decode cX9_unit 98 = .ok (.istore 5, 2) := by decide +kernel
theorem dX9_unit_100 : decode cX9_unit 100 = .ok (.iload_n 2, 1) := by decide +kernel
theorem dX9_unit_101 : decode cX9_unit 101 = .ok (.ifCond .ne 25, 3) := by decide +kernel
theorem dX9_unit_104 : decode cX9_unit 104 = .ok (.iload 4, 2) := by decide +kernel
theorem dX9_unit_106 : decode cX9_unit 106 = .ok (.ifCond .ne 15, 3) := by decide +kernel
theorem dX9_unit_109 : decode cX9_unit 109 = .ok (.aload_n 0, 1) := by decide +kernel
theorem dX9_unit_110 : decode cX9_unit 110 = .ok (.getfield 181, 3) := by decide +kernel
theorem dX9_unit_113 : decode cX9_unit 113 = .ok (.iconst 4, 1) := by decide +kernel
theorem dX9_unit_114 : decode cX9_unit 114 = .ok (.if_icmp .eq 7, 3) := by decide +kernel
theorem dX9_unit_117 : decode cX9_unit 117 = .ok (.iload_n 3, 1) := by decide +kernel
theorem dX9_unit_118 : decode cX9_unit 118 = .ok (.ifCond .eq 25, 3) := by decide +kernel
theorem dX9_unit_121 : decode cX9_unit 121 = .ok (.iload 5, 2) := by decide +kernel
theorem dX9_unit_123 : decode cX9_unit 123 = .ok (.ifCond .ne 20, 3) := by decide +kernel
theorem dX9_unit_126 : decode cX9_unit 126 = .ok (.iload_n 2, 1) := by decide +kernel
theorem dX9_unit_127 : decode cX9_unit 127 = .ok (.ifCond .ne 7, 3) := by decide +kernel
theorem dX9_unit_130 : decode cX9_unit 130 = .ok (.iload_n 3, 1) := by decide +kernel
theorem dX9_unit_131 : decode cX9_unit 131 = .ok (.ifCond .eq 16, 3) := by decide +kernel
theorem dX9_unit_134 : decode cX9_unit 134 = .ok (.aload_n 0, 1) := by decide +kernel
theorem dX9_unit_135 : decode cX9_unit 135 = .ok (.getfield 288, 3) := by decide +kernel
theorem dX9_unit_138 : decode cX9_unit 138 = .ok (.bipush 7, 2) := by decide +kernel
theorem dX9_unit_140 : decode cX9_unit 140 = .ok (.if_icmp .ne 7, 3) := by decide +kernel
theorem dX9_unit_143 : decode cX9_unit 143 = .ok (.aload_n 0, 1) := by decide +kernel
theorem dX9_unit_144 : decode cX9_unit 144 = .ok (.invokevirtual 216, 3) := by decide +kernel
theorem dX9_unit_147 : decode cX9_unit 147 = .ok (.aload_n 0, 1) := by decide +kernel
theorem dX9_unit_148 : decode cX9_unit 148 = .ok (.invokevirtual 209, 3) := by decide +kernel
theorem dX9_unit_151 : decode cX9_unit 151 = .ok (.ifCond .ne 5, 3) := by decide +kernel
theorem dX9_unit_154 : decode cX9_unit 154 = .ok (.iconst 1, 1) := by decide +kernel
theorem dX9_unit_155 : decode cX9_unit 155 = .ok (.ireturn, 1) := by decide +kernel
theorem dX9_unit_156 : decode cX9_unit 156 = .ok (.aload_n 0, 1) := by decide +kernel
theorem dX9_unit_157 : decode cX9_unit 157 = .ok (.getfield 27, 3) := by decide +kernel
theorem dX9_unit_160 : decode cX9_unit 160 = .ok (.aload_n 0, 1) := by decide +kernel
theorem dX9_unit_161 : decode cX9_unit 161 = .ok (.getfield 230, 3) := by decide +kernel
theorem dX9_unit_164 : decode cX9_unit 164 = .ok (.dup2, 1) := by decide +kernel
theorem dX9_unit_165 : decode cX9_unit 165 = .ok (.iaload, 1) := by decide +kernel
theorem dX9_unit_166 : decode cX9_unit 166 = .ok (.iload_n 2, 1) := by decide +kernel
theorem dX9_unit_167 : decode cX9_unit 167 = .ok (.ifCond .eq 7, 3) := by decide +kernel
theorem dX9_unit_170 : decode cX9_unit 170 = .ok (.iconst 0, 1) := by decide +kernel
theorem dX9_unit_171 : decode cX9_unit 171 = .ok (.goto 4, 3) := by decide +kernel
theorem dX9_unit_174 : decode cX9_unit 174 = .ok (.iconst 1, 1) := by decide +kernel
theorem dX9_unit_175 : decode cX9_unit 175 = .ok (.iadd, 1) := by decide +kernel
theorem dX9_unit_176 : decode cX9_unit 176 = .ok (.iastore, 1) := by decide +kernel
theorem dX9_unit_177 : decode cX9_unit 177 = .ok (.aload_n 0, 1) := by decide +kernel
theorem dX9_unit_178 : decode cX9_unit 178 = .ok (.dup, 1) := by decide +kernel
theorem dX9_unit_179 : decode cX9_unit 179 = .ok (.getfield 279, 3) := by decide +kernel
theorem dX9_unit_182 : decode cX9_unit 182 = .ok (.iload_n 2, 1) := by decide +kernel
theorem dX9_unit_183 : decode cX9_unit 183 = .ok (.ifCond .eq 7, 3) := by decide +kernel
theorem dX9_unit_186 : decode cX9_unit 186 = .ok (.iconst 0, 1) := by decide +kernel
theorem dX9_unit_187 : decode cX9_unit 187 = .ok (.goto 4, 3) := by decide +kernel
theorem dX9_unit_190 : decode cX9_unit 190 = .ok (.iconst 1, 1) := by decide +kernel
theorem dX9_unit_191 : decode cX9_unit 191 = .ok (.iadd, 1) := by decide +kernel
theorem dX9_unit_192 : decode cX9_unit 192 = .ok (.putfield 279, 3) := by decide +kernel
theorem dX9_unit_195 : decode cX9_unit 195 = .ok (.iload 4, 2) := by decide +kernel
theorem dX9_unit_197 : decode cX9_unit 197 = .ok (.ifCond .ne 10, 3) := by decide +kernel
theorem dX9_unit_200 : decode cX9_unit 200 = .ok (.aload_n 0, 1) := by decide +kernel
theorem dX9_unit_201 : decode cX9_unit 201 = .ok (.getfield 199, 3) := by decide +kernel
theorem dX9_unit_204 : decode cX9_unit 204 = .ok (.goto 4, 3) := by decide +kernel
theorem dX9_unit_207 : decode cX9_unit 207 = .ok (.iconst 0, 1) := by decide +kernel
theorem dX9_unit_208 : decode cX9_unit 208 = .ok (.istore 6, 2) := by decide +kernel
theorem dX9_unit_210 : decode cX9_unit 210 = .ok (.aload_n 0, 1) := by decide +kernel
theorem dX9_unit_211 : decode cX9_unit 211 = .ok (.invokevirtual 213, 3) := by decide +kernel
theorem dX9_unit_214 : decode cX9_unit 214 = .ok (.iload_n 2, 1) := by decide +kernel
theorem dX9_unit_215 : decode cX9_unit 215 = .ok (.ifCond .ne 7, 3) := by decide +kernel
theorem dX9_unit_218 : decode cX9_unit 218 = .ok (.iload_n 3, 1) := by decide +kernel
theorem dX9_unit_219 : decode cX9_unit 219 = .ok (.ifCond .eq 31, 3) := by decide +kernel
theorem dX9_unit_222 : decode cX9_unit 222 = .ok (.aload_n 0, 1) := by decide +kernel
theorem dX9_unit_223 : decode cX9_unit 223 = .ok (.iload_n 2, 1) := by decide +kernel
theorem dX9_unit_224 : decode cX9_unit 224 = .ok (.ifCond .eq 7, 3) := by decide +kernel
theorem dX9_unit_227 : decode cX9_unit 227 = .ok (.iconst 3, 1) := by decide +kernel
theorem dX9_unit_228 : decode cX9_unit 228 = .ok (.goto 5, 3) := by decide +kernel
theorem dX9_unit_231 : decode cX9_unit 231 = .ok (.bipush 7, 2) := by decide +kernel
theorem dX9_unit_233 : decode cX9_unit 233 = .ok (.bipush 126, 2) := by decide +kernel
theorem dX9_unit_235 : decode cX9_unit 235 = .ok (.invokevirtual 291, 3) := by decide +kernel
theorem dX9_unit_238 : decode cX9_unit 238 = .ok (.aload_n 0, 1) := by decide +kernel
theorem dX9_unit_239 : decode cX9_unit 239 = .ok (.dup, 1) := by decide +kernel
theorem dX9_unit_240 : decode cX9_unit 240 = .ok (.getfield 288, 3) := by decide +kernel
theorem dX9_unit_243 : decode cX9_unit 243 = .ok (.iconst 1, 1) := by decide +kernel
theorem dX9_unit_244 : decode cX9_unit 244 = .ok (.iadd, 1) := by decide +kernel
theorem dX9_unit_245 : decode cX9_unit 245 = .ok (.putfield 288, 3) := by decide +kernel
theorem dX9_unit_248 : decode cX9_unit 248 = .ok (.iconst 1, 1) := by decide +kernel
theorem dX9_unit_249 : decode cX9_unit 249 = .ok (.ireturn, 1) := by decide +kernel
theorem dX9_unit_250 : decode cX9_unit 250 = .ok (.aload_n 0, 1) := by decide +kernel
theorem dX9_unit_251 : decode cX9_unit 251 = .ok (.iload 4, 2) := by decide +kernel
theorem dX9_unit_253 : decode cX9_unit 253 = .ok (.ifCond .ne 8, 3) := by decide +kernel
theorem dX9_unit_256 : decode cX9_unit 256 = .ok (.bipush 110, 2) := by decide +kernel
theorem dX9_unit_258 : decode cX9_unit 258 = .ok (.goto 5, 3) := by decide +kernel
theorem dX9_unit_261 : decode cX9_unit 261 = .ok (.iload 4, 2) := by decide +kernel
theorem dX9_unit_263 : decode cX9_unit 263 = .ok (.iload 6, 2) := by decide +kernel
theorem dX9_unit_265 : decode cX9_unit 265 = .ok (.invokevirtual 303, 3) := by decide +kernel
theorem dX9_unit_268 : decode cX9_unit 268 = .ok (.iconst 0, 1) := by decide +kernel
theorem dX9_unit_269 : decode cX9_unit 269 = .ok (.ireturn, 1) := by decide +kernel
set_option maxRecDepth 20000 in
theorem ggX9_rankHere_X9_isWord : GoodIn wsX9_rankHere wsX9_isWord := goodIn_r _ [7, 8, 9, 21, 22, 23, 24, 25, 26, 27, 28, 29, 30, 31, 32, 33, 34, 35, 36, 37, 38, 39, 40, 41, 42, 43, 44, 45, 46, 47, 48, 49, 50, 51, 52, 53, 54, 55, 56, 57, 58, 59, 60, 61, 62, 63, 64, 65, 66, 67, 68, 69, 70, 71, 72, 73, 74, 75, 76, 77, 78, 79, 80, 81, 82, 83, 84] rfl rfl
set_option maxRecDepth 20000 in
theorem gX9_rankHere_X9_isWord : GoodIn wsX9_rankHere (wsV RX9 219 RX9 yX9_isWord wsX9_isWord) := goodIn_app (goodIn_of _ (by decide +kernel)) ggX9_rankHere_X9_isWord
set_option maxRecDepth 20000 in
theorem ggX9_rankHere_X9_isSignHere : GoodIn wsX9_rankHere wsX9_isSignHere := goodIn_r _ [13, 8, 14, 15, 16, 17, 6, 18, 19, 20, 21, 22, 23, 24, 25, 26, 27, 28, 29, 30, 31, 32, 33, 34, 35, 36, 37, 38, 39, 40, 41, 42, 43, 44, 45, 46, 47, 48, 49, 50, 51, 52, 53, 54, 55, 56, 57, 58, 59, 60, 61, 62, 63, 64, 65, 66, 67, 68, 69, 70, 71, 72, 73, 74, 75, 76, 77, 78, 79, 80, 81, 82, 83, 84] rfl rfl
set_option maxRecDepth 20000 in
theorem gX9_rankHere_X9_isSignHere : GoodIn wsX9_rankHere (wsV RX9 269 RX9 yX9_isSignHere wsX9_isSignHere) := goodIn_app (goodIn_of _ (by decide +kernel)) ggX9_rankHere_X9_isSignHere
theorem dX9_rankHere_0 : decode cX9_rankHere 0 = .ok (.aload_n 0, 1) := by decide +kernel
theorem dX9_rankHere_1 : decode cX9_rankHere 1 = .ok (.ldc2_w 167, 3) := by decide +kernel
theorem dX9_rankHere_4 : decode cX9_rankHere 4 = .ok (.invokevirtual 219, 3) := by decide +kernel
theorem dX9_rankHere_7 : decode cX9_rankHere 7 = .ok (.ifCond .eq 5, 3) := by decide +kernel
theorem dX9_rankHere_10 : decode cX9_rankHere 10 = .ok (.iconst 2, 1) := by decide +kernel
theorem dX9_rankHere_11 : decode cX9_rankHere 11 = .ok (.ireturn, 1) := by decide +kernel
theorem dX9_rankHere_12 : decode cX9_rankHere 12 = .ok (.aload_n 0, 1) := by decide +kernel
theorem dX9_rankHere_13 : decode cX9_rankHere 13 = .ok (.ldc2_w 165, 3) := by decide +kernel
theorem dX9_rankHere_16 : decode cX9_rankHere 16 = .ok (.invokevirtual 219, 3) := by decide +kernel
theorem dX9_rankHere_19 : decode cX9_rankHere 19 = .ok (.ifCond .eq 5, 3) := by decide +kernel
theorem dX9_rankHere_22 : decode cX9_rankHere 22 = .ok (.iconst 1, 1) := by decide +kernel
theorem dX9_rankHere_23 : decode cX9_rankHere 23 = .ok (.ireturn, 1) := by decide +kernel
theorem dX9_rankHere_24 : decode cX9_rankHere 24 = .ok (.aload_n 0, 1) := by decide +kernel
theorem dX9_rankHere_25 : decode cX9_rankHere 25 = .ok (.bipush 60, 2) := by decide +kernel
theorem dX9_rankHere_27 : decode cX9_rankHere 27 = .ok (.invokevirtual 269, 3) := by decide +kernel
theorem dX9_rankHere_30 : decode cX9_rankHere 30 = .ok (.ifCond .ne 21, 3) := by decide +kernel
theorem dX9_rankHere_33 : decode cX9_rankHere 33 = .ok (.aload_n 0, 1) := by decide +kernel
theorem dX9_rankHere_34 : decode cX9_rankHere 34 = .ok (.bipush 62, 2) := by decide +kernel
theorem dX9_rankHere_36 : decode cX9_rankHere 36 = .ok (.invokevirtual 269, 3) := by decide +kernel
theorem dX9_rankHere_39 : decode cX9_rankHere 39 = .ok (.ifCond .ne 12, 3) := by decide +kernel
theorem dX9_rankHere_42 : decode cX9_rankHere 42 = .ok (.aload_n 0, 1) := by decide +kernel
theorem dX9_rankHere_43 : decode cX9_rankHere 43 = .ok (.bipush 61, 2) := by decide +kernel
theorem dX9_rankHere_45 : decode cX9_rankHere 45 = .ok (.invokevirtual 269, 3) := by decide +kernel
theorem dX9_rankHere_48 : decode cX9_rankHere 48 = .ok (.ifCond .eq 5, 3) := by decide +kernel
theorem dX9_rankHere_51 : decode cX9_rankHere 51 = .ok (.iconst 4, 1) := by decide +kernel
theorem dX9_rankHere_52 : decode cX9_rankHere 52 = .ok (.ireturn, 1) := by decide +kernel
theorem dX9_rankHere_53 : decode cX9_rankHere 53 = .ok (.aload_n 0, 1) := by decide +kernel
theorem dX9_rankHere_54 : decode cX9_rankHere 54 = .ok (.bipush 43, 2) := by decide +kernel
theorem dX9_rankHere_56 : decode cX9_rankHere 56 = .ok (.invokevirtual 269, 3) := by decide +kernel
theorem dX9_rankHere_59 : decode cX9_rankHere 59 = .ok (.ifCond .ne 12, 3) := by decide +kernel
theorem dX9_rankHere_62 : decode cX9_rankHere 62 = .ok (.aload_n 0, 1) := by decide +kernel
theorem dX9_rankHere_63 : decode cX9_rankHere 63 = .ok (.bipush 45, 2) := by decide +kernel
theorem dX9_rankHere_65 : decode cX9_rankHere 65 = .ok (.invokevirtual 269, 3) := by decide +kernel
theorem dX9_rankHere_68 : decode cX9_rankHere 68 = .ok (.ifCond .eq 5, 3) := by decide +kernel
theorem dX9_rankHere_71 : decode cX9_rankHere 71 = .ok (.iconst 5, 1) := by decide +kernel
theorem dX9_rankHere_72 : decode cX9_rankHere 72 = .ok (.ireturn, 1) := by decide +kernel
theorem dX9_rankHere_73 : decode cX9_rankHere 73 = .ok (.aload_n 0, 1) := by decide +kernel
theorem dX9_rankHere_74 : decode cX9_rankHere 74 = .ok (.bipush 42, 2) := by decide +kernel
theorem dX9_rankHere_76 : decode cX9_rankHere 76 = .ok (.invokevirtual 269, 3) := by decide +kernel
theorem dX9_rankHere_79 : decode cX9_rankHere 79 = .ok (.ifCond .ne 21, 3) := by decide +kernel
theorem dX9_rankHere_82 : decode cX9_rankHere 82 = .ok (.aload_n 0, 1) := by decide +kernel
theorem dX9_rankHere_83 : decode cX9_rankHere 83 = .ok (.bipush 47, 2) := by decide +kernel
theorem dX9_rankHere_85 : decode cX9_rankHere 85 = .ok (.invokevirtual 269, 3) := by decide +kernel
theorem dX9_rankHere_88 : decode cX9_rankHere 88 = .ok (.ifCond .ne 12, 3) := by decide +kernel
theorem dX9_rankHere_91 : decode cX9_rankHere 91 = .ok (.aload_n 0, 1) := by decide +kernel
theorem dX9_rankHere_92 : decode cX9_rankHere 92 = .ok (.bipush 37, 2) := by decide +kernel
theorem dX9_rankHere_94 : decode cX9_rankHere 94 = .ok (.invokevirtual 269, 3) := by decide +kernel
theorem dX9_rankHere_97 : decode cX9_rankHere 97 = .ok (.ifCond .eq 8, 3) := by decide +kernel
theorem dX9_rankHere_100 : decode cX9_rankHere 100 = .ok (.bipush 6, 2) := by decide +kernel
theorem dX9_rankHere_102 : decode cX9_rankHere 102 = .ok (.goto 4, 3) := by decide +kernel
theorem dX9_rankHere_105 : decode cX9_rankHere 105 = .ok (.iconst 0, 1) := by decide +kernel
theorem dX9_rankHere_106 : decode cX9_rankHere 106 = .ok (.ireturn, 1) := by decide +kernel
set_option maxRecDepth 20000 in
theorem ggX9_behindUnit_X9_rankHere : GoodIn wsX9_behindUnit wsX9_rankHere := goodIn_r _ [10, 11, 12, 13, 14, 15, 9, 16, 17, 18, 19, 20, 21, 22, 5, 23, 24, 25, 26, 27, 28, 92, 93, 94, 95, 96, 97, 98, 99, 100, 101, 102, 103, 104, 105, 106, 107, 108, 109, 110, 111, 112, 113, 114, 115, 116, 117, 118, 119, 120, 121, 122, 123, 124, 125, 126, 127, 128, 129, 130, 131, 132, 133, 134, 135, 136, 137, 138, 139, 140, 141, 142, 143, 144, 145, 146, 147, 148, 149, 150, 151, 152, 153, 154, 155] rfl rfl
set_option maxRecDepth 20000 in
theorem gX9_behindUnit_X9_rankHere : GoodIn wsX9_behindUnit (wsV RX9 306 RX9 yX9_rankHere wsX9_rankHere) := goodIn_app (goodIn_of _ (by decide +kernel)) ggX9_behindUnit_X9_rankHere
set_option maxRecDepth 20000 in
theorem ggX9_behindUnit_X9_isCompared : GoodIn wsX9_behindUnit wsX9_isCompared := goodIn_r _ [32, 2, 1, 92, 93, 94, 95, 96, 97, 98, 99, 100, 101, 102, 103, 104, 105, 106, 107, 108, 109, 110, 111, 112, 113, 114, 115, 116, 117, 118, 119, 120, 121, 122, 123, 124, 125, 126, 127, 128, 129, 130, 131, 132, 133, 134, 135, 136, 137, 138, 139, 140, 141, 142, 143, 144, 145, 146, 147, 148, 149, 150, 151, 152, 153, 154, 155] rfl rfl
set_option maxRecDepth 20000 in
theorem gX9_behindUnit_X9_isCompared : GoodIn wsX9_behindUnit (wsV RX9 309 RX9 yX9_isCompared wsX9_isCompared) := goodIn_app (goodIn_of _ (by decide +kernel)) ggX9_behindUnit_X9_isCompared
set_option maxRecDepth 20000 in
theorem ggX9_behindUnit_X9_misplaced : GoodIn wsX9_behindUnit wsX9_misplaced := goodIn_r _ [36, 17, 5, 37, 38, 39, 9, 40, 41, 42, 92, 93, 94, 95, 96, 97, 98, 99, 100, 101, 102, 103, 104, 105, 106, 107, 108, 109, 110, 111, 112, 113, 114, 115, 116, 117, 118, 119, 120, 121, 122, 123, 124, 125, 126, 127, 128, 129, 130, 131, 132, 133, 134, 135, 136, 137, 138, 139, 140, 141, 142, 143, 144, 145, 146, 147, 148, 149, 150, 151, 152, 153, 154, 155] rfl rfl
set_option maxRecDepth 20000 in
theorem gX9_behindUnit_X9_misplaced : GoodIn wsX9_behindUnit (wsV RX9 216 RX9 yX9_misplaced wsX9_misplaced) := goodIn_app (goodIn_of _ (by decide +kernel)) ggX9_behindUnit_X9_misplaced
set_option maxRecDepth 20000 in
theorem ggX9_behindUnit_X9_emit : GoodIn wsX9_behindUnit wsX9_emit := goodIn_r _ [46, 47, 48, 49, 92, 93, 94, 95, 96, 97, 98, 99, 100, 101, 102, 103, 104, 105, 106, 107, 108, 109, 110, 111, 112, 113, 114, 115, 116, 117, 118, 119, 120, 121, 122, 123, 124, 125, 126, 127, 128, 129, 130, 131, 132, 133, 134, 135, 136, 137, 138, 139, 140, 141, 142, 143, 144, 145, 146, 147, 148, 149, 150, 151, 152, 153, 154, 155] rfl rfl
set_option maxRecDepth 20000 in
theorem gX9_behindUnit_X9_emit : GoodIn wsX9_behindUnit (wsV RX9 303 RX9 yX9_emit wsX9_emit) := goodIn_app (goodIn_of _ (by decide +kernel)) ggX9_behindUnit_X9_emit
set_option maxRecDepth 20000 in
theorem ggX9_behindUnit_X9_sign : GoodIn wsX9_behindUnit wsX9_sign := goodIn_r _ [26, 27, 28, 92, 93, 94, 95, 96, 97, 98, 99, 100, 101, 102, 103, 104, 105, 106, 107, 108, 109, 110, 111, 112, 113, 114, 115, 116, 117, 118, 119, 120, 121, 122, 123, 124, 125, 126, 127, 128, 129, 130, 131, 132, 133, 134, 135, 136, 137, 138, 139, 140, 141, 142, 143, 144, 145, 146, 147, 148, 149, 150, 151, 152, 153, 154, 155] rfl rfl
set_option maxRecDepth 20000 in
theorem gX9_behindUnit_X9_sign : GoodIn wsX9_behindUnit (wsV RX9 177 RX9 yX9_sign wsX9_sign) := goodIn_app (goodIn_of _ (by decide +kernel)) ggX9_behindUnit_X9_sign
set_option maxRecDepth 20000 in
theorem ggX9_behindUnit_X9_pushE : GoodIn wsX9_behindUnit wsX9_pushE := goodIn_r _ [53, 1, 2, 4, 92, 93, 94, 95, 96, 97, 98, 99, 100, 101, 102, 103, 104, 105, 106, 107, 108, 109, 110, 111, 112, 113, 114, 115, 116, 117, 118, 119, 120, 121, 122, 123, 124, 125, 126, 127, 128, 129, 130, 131, 132, 133, 134, 135, 136, 137, 138, 139, 140, 141, 142, 143, 144, 145, 146, 147, 148, 149, 150, 151, 152, 153, 154, 155] rfl rfl
set_option maxRecDepth 20000 in
theorem gX9_behindUnit_X9_pushE : GoodIn wsX9_behindUnit (wsV RX9 291 RX9 yX9_pushE wsX9_pushE) := goodIn_app (goodIn_of _ (by decide +kernel)) ggX9_behindUnit_X9_pushE
set_option maxRecDepth 20000 in
theorem ggX9_behindUnit_X9_goOn : GoodIn wsX9_behindUnit wsX9_goOn := goodIn_r _ [57, 58, 5, 27, 17, 18, 59, 23, 24, 25, 9, 26, 28, 60, 61, 62, 63, 64, 65, 66, 67, 68, 69, 70, 71, 72, 73, 74, 75, 76, 12, 11, 77, 78, 79, 80, 81, 82, 83, 92, 93, 94, 95, 96, 97, 98, 99, 100, 101, 102, 103, 104, 105, 106, 107, 108, 109, 110, 111, 112, 113, 114, 115, 116, 117, 118, 119, 120, 121, 122, 123, 124, 125, 126, 127, 128, 129, 130, 131, 132, 133, 134, 135, 136, 137, 138, 139, 140, 141, 142, 143, 144, 145, 146, 147, 148, 149, 150, 151, 152, 153, 154, 155] rfl rfl
set_option maxRecDepth 20000 in
theorem gX9_behindUnit_X9_goOn : GoodIn wsX9_behindUnit (wsV RX9 213 RX9 yX9_goOn wsX9_goOn) := goodIn_app (goodIn_of _ (by decide +kernel)) ggX9_behindUnit_X9_goOn
set_option maxRecDepth 20000 in
theorem ggX9_behindUnit_X9_isSignHere : GoodIn wsX9_behindUnit wsX9_isSignHere := goodIn_r _ [22, 17, 5, 23, 24, 25, 9, 26, 27, 28, 92, 93, 94, 95, 96, 97, 98, 99, 100, 101, 102, 103, 104, 105, 106, 107, 108, 109, 110, 111, 112, 113, 114, 115, 116, 117, 118, 119, 120, 121, 122, 123, 124, 125, 126, 127, 128, 129, 130, 131, 132, 133, 134, 135, 136, 137, 138, 139, 140, 141, 142, 143, 144, 145, 146, 147, 148, 149, 150, 151, 152, 153, 154, 155] rfl rfl
set_option maxRecDepth 20000 in
theorem gX9_behindUnit_X9_isSignHere : GoodIn wsX9_behindUnit (wsV RX9 269 RX9 yX9_isSignHere wsX9_isSignHere) := goodIn_app (goodIn_of _ (by decide +kernel)) ggX9_behindUnit_X9_isSignHere
set_option maxRecDepth 20000 in
theorem ggX9_behindUnit_X9_must : GoodIn wsX9_behindUnit wsX9_must := goodIn_r _ [87, 88, 89, 90, 9, 91, 41, 54, 55, 56, 57, 58, 5, 27, 17, 18, 59, 23, 24, 25, 26, 28, 60, 61, 62, 63, 64, 65, 66, 67, 68, 69, 70, 71, 72, 73, 74, 75, 76, 12, 11, 77, 78, 79, 80, 81, 82, 83, 33, 34, 35, 36, 37, 38, 39, 40, 42, 92, 93, 94, 95, 96, 97, 98, 99, 100, 101, 102, 103, 104, 105, 106, 107, 108, 109, 110, 111, 112, 113, 114, 115, 116, 117, 118, 119, 120, 121, 122, 123, 124, 125, 126, 127, 128, 129, 130, 131, 132, 133, 134, 135, 136, 137, 138, 139, 140, 141, 142, 143, 144, 145, 146, 147, 148, 149, 150, 151, 152, 153, 154, 155] rfl rfl
set_option maxRecDepth 20000 in
theorem gX9_behindUnit_X9_must : GoodIn wsX9_behindUnit (wsV RX9 222 RX9 yX9_must wsX9_must) := goodIn_app (goodIn_of _ (by decide +kernel)) ggX9_behindUnit_X9_must
theorem dX9_behindUnit_0 : decode cX9_behindUnit 0 = .ok (.aload_n 0, 1) := by decide +kernel
theorem dX9_behindUnit_1 : decode cX9_behindUnit 1 = .ok (.invokevirtual 306, 3) := by decide +kernel
theorem dX9_behindUnit_4 : decode cX9_behindUnit 4 = .ok (.istore_n 1, 1) := by decide +kernel
theorem dX9_behindUnit_5 : decode cX9_behindUnit 5 = .ok (.iload_n 1, 1) := by decide +kernel
theorem dX9_behindUnit_6 : decode cX9_behindUnit 6 = .ok (.iconst 4, 1) := by decide +kernel
theorem dX9_behindUnit_7 : decode cX9_behindUnit 7 = .ok (.if_icmp .ne 16, 3) := by decide +kernel
theorem dX9_behindUnit_10 : decode cX9_behindUnit 10 = .ok (.aload_n 0, 1) := by decide +kernel
theorem dX9_behindUnit_11 : decode cX9_behindUnit 11 = .ok (.invokevirtual 309, 3) := by decide +kernel
theorem dX9_behindUnit_14 : decode cX9_behindUnit 14 = .ok (.ifCond .eq 9, 3) := by decide +kernel
theorem dX9_behindUnit_17 : decode cX9_behindUnit 17 = .ok (.aload_n 0, 1) := by decide +kernel
theorem dX9_behindUnit_18 : decode cX9_behindUnit 18 = .ok (.invokevirtual 216, 3) := by decide +kernel
theorem dX9_behindUnit_21 : decode cX9_behindUnit 21 = .ok (.iconst 1, 1) := by decide +kernel
theorem dX9_behindUnit_22 : decode cX9_behindUnit 22 = .ok (.ireturn, 1) := by decide +kernel
theorem dX9_behindUnit_23 : decode cX9_behindUnit 23 = .ok (.aload_n 0, 1) := by decide +kernel
theorem dX9_behindUnit_24 : decode cX9_behindUnit 24 = .ok (.getfield 67, 3) := by decide +kernel
theorem dX9_behindUnit_27 : decode cX9_behindUnit 27 = .ok (.aload_n 0, 1) := by decide +kernel
theorem dX9_behindUnit_28 : decode cX9_behindUnit 28 = .ok (.getfield 285, 3) := by decide +kernel
theorem dX9_behindUnit_31 : decode cX9_behindUnit 31 = .ok (.iconst 1, 1) := by decide +kernel
theorem dX9_behindUnit_32 : decode cX9_behindUnit 32 = .ok (.isub, 1) := by decide +kernel
theorem dX9_behindUnit_33 : decode cX9_behindUnit 33 = .ok (.iaload, 1) := by decide +kernel
theorem dX9_behindUnit_34 : decode cX9_behindUnit 34 = .ok (.bipush 6, 2) := by decide +kernel
theorem dX9_behindUnit_36 : decode cX9_behindUnit 36 = .ok (.if_icmp .gt 68, 3) := by decide +kernel
theorem dX9_behindUnit_39 : decode cX9_behindUnit 39 = .ok (.aload_n 0, 1) := by decide +kernel
theorem dX9_behindUnit_40 : decode cX9_behindUnit 40 = .ok (.getfield 67, 3) := by decide +kernel
theorem dX9_behindUnit_43 : decode cX9_behindUnit 43 = .ok (.aload_n 0, 1) := by decide +kernel
theorem dX9_behindUnit_44 : decode cX9_behindUnit 44 = .ok (.getfield 285, 3) := by decide +kernel
theorem dX9_behindUnit_47 : decode cX9_behindUnit 47 = .ok (.iconst 1, 1) := by decide +kernel
theorem dX9_behindUnit_48 : decode cX9_behindUnit 48 = .ok (.isub, 1) := by decide +kernel
theorem dX9_behindUnit_49 : decode cX9_behindUnit 49 = .ok (.iaload, 1) := by decide +kernel
theorem dX9_behindUnit_50 : decode cX9_behindUnit 50 = .ok (.iload_n 1, 1) := by decide +kernel
theorem dX9_behindUnit_51 : decode cX9_behindUnit 51 = .ok (.if_icmp .lt 53, 3) := by decide +kernel
theorem dX9_behindUnit_54 : decode cX9_behindUnit 54 = .ok (.aload_n 0, 1) := by decide +kernel
theorem dX9_behindUnit_55 : decode cX9_behindUnit 55 = .ok (.dup, 1) := by decide +kernel
theorem dX9_behindUnit_56 : decode cX9_behindUnit 56 = .ok (.getfield 285, 3) := by decide +kernel
theorem dX9_behindUnit_59 : decode cX9_behindUnit 59 = .ok (.iconst 1, 1) := by decide +kernel
theorem dX9_behindUnit_60 : decode cX9_behindUnit 60 = .ok (.isub, 1) := by decide +kernel
theorem dX9_behindUnit_61 : decode cX9_behindUnit 61 = .ok (.putfield 285, 3) := by decide +kernel
theorem dX9_behindUnit_64 : decode cX9_behindUnit 64 = .ok (.aload_n 0, 1) := by decide +kernel
theorem dX9_behindUnit_65 : decode cX9_behindUnit 65 = .ok (.getfield 67, 3) := by decide +kernel
theorem dX9_behindUnit_68 : decode cX9_behindUnit 68 = .ok (.aload_n 0, 1) := by decide +kernel
theorem dX9_behindUnit_69 : decode cX9_behindUnit 69 = .ok (.getfield 285, 3) := by decide +kernel
theorem dX9_behindUnit_72 : decode cX9_behindUnit 72 = .ok (.iaload, 1) := by decide +kernel
theorem dX9_behindUnit_73 : decode cX9_behindUnit 73 = .ok (.iconst 3, 1) := by decide +kernel
theorem dX9_behindUnit_74 : decode cX9_behindUnit 74 = .ok (.if_icmp .ne 13, 3) := by decide +kernel
theorem dX9_behindUnit_77 : decode cX9_behindUnit 77 = .ok (.aload_n 0, 1) := by decide +kernel
theorem dX9_behindUnit_78 : decode cX9_behindUnit 78 = .ok (.dup, 1) := by decide +kernel
theorem dX9_behindUnit_79 : decode cX9_behindUnit 79 = .ok (.getfield 288, 3) := by decide +kernel
theorem dX9_behindUnit_82 : decode cX9_behindUnit 82 = .ok (.iconst 1, 1) := by decide +kernel
theorem dX9_behindUnit_83 : decode cX9_behindUnit 83 = .ok (.isub, 1) := by decide +kernel
theorem dX9_behindUnit_84 : decode cX9_behindUnit 84 = .ok (.putfield 288, 3) := by decide +kernel
theorem dX9_behindUnit_87 : decode cX9_behindUnit 87 = .ok (.aload_n 0, 1) := by decide +kernel
theorem dX9_behindUnit_88 : decode cX9_behindUnit 88 = .ok (.aload_n 0, 1) := by decide +kernel
theorem dX9_behindUnit_89 : decode cX9_behindUnit 89 = .ok (.getfield 70, 3) := by decide +kernel
theorem dX9_behindUnit_92 : decode cX9_behindUnit 92 = .ok (.aload_n 0, 1) := by decide +kernel
theorem dX9_behindUnit_93 : decode cX9_behindUnit 93 = .ok (.getfield 285, 3) := by decide +kernel
theorem dX9_behindUnit_96 : decode cX9_behindUnit 96 = .ok (.iaload, 1) := by decide +kernel
theorem dX9_behindUnit_97 : decode cX9_behindUnit 97 = .ok (.iconst 0, 1) := by decide +kernel
theorem dX9_behindUnit_98 : decode cX9_behindUnit 98 = .ok (.invokevirtual 303, 3) := by decide +kernel
theorem dX9_behindUnit_101 : decode cX9_behindUnit 101 = .ok (.goto (-78), 3) := by decide +kernel
theorem dX9_behindUnit_104 : decode cX9_behindUnit 104 = .ok (.iload_n 1, 1) := by decide +kernel
theorem dX9_behindUnit_105 : decode cX9_behindUnit 105 = .ok (.ifCond .le 42, 3) := by decide +kernel
theorem dX9_behindUnit_108 : decode cX9_behindUnit 108 = .ok (.aload_n 0, 1) := by decide +kernel
theorem dX9_behindUnit_109 : decode cX9_behindUnit 109 = .ok (.iload_n 1, 1) := by decide +kernel
theorem dX9_behindUnit_110 : decode cX9_behindUnit 110 = .ok (.iload_n 1, 1) := by decide +kernel
theorem dX9_behindUnit_111 : decode cX9_behindUnit 111 = .ok (.iconst 2, 1) := by decide +kernel
theorem dX9_behindUnit_112 : decode cX9_behindUnit 112 = .ok (.if_icmp .ne 8, 3) := by decide +kernel
theorem dX9_behindUnit_115 : decode cX9_behindUnit 115 = .ok (.bipush 38, 2) := by decide +kernel
theorem dX9_behindUnit_117 : decode cX9_behindUnit 117 = .ok (.goto 21, 3) := by decide +kernel
theorem dX9_behindUnit_120 : decode cX9_behindUnit 120 = .ok (.iload_n 1, 1) := by decide +kernel
theorem dX9_behindUnit_121 : decode cX9_behindUnit 121 = .ok (.iconst 1, 1) := by decide +kernel
theorem dX9_behindUnit_122 : decode cX9_behindUnit 122 = .ok (.if_icmp .ne 8, 3) := by decide +kernel
theorem dX9_behindUnit_125 : decode cX9_behindUnit 125 = .ok (.bipush 124, 2) := by decide +kernel
theorem dX9_behindUnit_127 : decode cX9_behindUnit 127 = .ok (.goto 11, 3) := by decide +kernel
theorem dX9_behindUnit_130 : decode cX9_behindUnit 130 = .ok (.aload_n 0, 1) := by decide +kernel
theorem dX9_behindUnit_131 : decode cX9_behindUnit 131 = .ok (.aload_n 0, 1) := by decide +kernel
theorem dX9_behindUnit_132 : decode cX9_behindUnit 132 = .ok (.getfield 174, 3) := by decide +kernel
theorem dX9_behindUnit_135 : decode cX9_behindUnit 135 = .ok (.invokevirtual 177, 3) := by decide +kernel
theorem dX9_behindUnit_138 : decode cX9_behindUnit 138 = .ok (.invokevirtual 291, 3) := by decide +kernel
theorem dX9_behindUnit_141 : decode cX9_behindUnit 141 = .ok (.aload_n 0, 1) := by decide +kernel
theorem dX9_behindUnit_142 : decode cX9_behindUnit 142 = .ok (.invokevirtual 213, 3) := by decide +kernel
theorem dX9_behindUnit_145 : decode cX9_behindUnit 145 = .ok (.iconst 1, 1) := by decide +kernel
theorem dX9_behindUnit_146 : decode cX9_behindUnit 146 = .ok (.ireturn, 1) := by decide +kernel
theorem dX9_behindUnit_147 : decode cX9_behindUnit 147 = .ok (.aload_n 0, 1) := by decide +kernel
theorem dX9_behindUnit_148 : decode cX9_behindUnit 148 = .ok (.dup, 1) := by decide +kernel
theorem dX9_behindUnit_149 : decode cX9_behindUnit 149 = .ok (.getfield 285, 3) := by decide +kernel
theorem dX9_behindUnit_152 : decode cX9_behindUnit 152 = .ok (.iconst 1, 1) := by decide +kernel
theorem dX9_behindUnit_153 : decode cX9_behindUnit 153 = .ok (.isub, 1) := by decide +kernel
theorem dX9_behindUnit_154 : decode cX9_behindUnit 154 = .ok (.putfield 285, 3) := by decide +kernel
theorem dX9_behindUnit_157 : decode cX9_behindUnit 157 = .ok (.aload_n 0, 1) := by decide +kernel
theorem dX9_behindUnit_158 : decode cX9_behindUnit 158 = .ok (.getfield 67, 3) := by decide +kernel
theorem dX9_behindUnit_161 : decode cX9_behindUnit 161 = .ok (.aload_n 0, 1) := by decide +kernel
theorem dX9_behindUnit_162 : decode cX9_behindUnit 162 = .ok (.getfield 285, 3) := by decide +kernel
theorem dX9_behindUnit_165 : decode cX9_behindUnit 165 = .ok (.iaload, 1) := by decide +kernel
theorem dX9_behindUnit_166 : decode cX9_behindUnit 166 = .ok (.bipush 7, 2) := by decide +kernel
theorem dX9_behindUnit_168 : decode cX9_behindUnit 168 = .ok (.if_icmp .ne 23, 3) := by decide +kernel
theorem dX9_behindUnit_171 : decode cX9_behindUnit 171 = .ok (.aload_n 0, 1) := by decide +kernel
theorem dX9_behindUnit_172 : decode cX9_behindUnit 172 = .ok (.dup, 1) := by decide +kernel
theorem dX9_behindUnit_173 : decode cX9_behindUnit 173 = .ok (.getfield 288, 3) := by decide +kernel
theorem dX9_behindUnit_176 : decode cX9_behindUnit 176 = .ok (.iconst 1, 1) := by decide +kernel
theorem dX9_behindUnit_177 : decode cX9_behindUnit 177 = .ok (.isub, 1) := by decide +kernel
theorem dX9_behindUnit_178 : decode cX9_behindUnit 178 = .ok (.putfield 288, 3) := by decide +kernel
theorem dX9_behindUnit_181 : decode cX9_behindUnit 181 = .ok (.aload_n 0, 1) := by decide +kernel
theorem dX9_behindUnit_182 : decode cX9_behindUnit 182 = .ok (.aload_n 0, 1) := by decide +kernel
theorem dX9_behindUnit_183 : decode cX9_behindUnit 183 = .ok (.bipush 41, 2) := by decide +kernel
theorem dX9_behindUnit_185 : decode cX9_behindUnit 185 = .ok (.invokevirtual 269, 3) := by decide +kernel
theorem dX9_behindUnit_188 : decode cX9_behindUnit 188 = .ok (.invokevirtual 222, 3) := by decide +kernel
theorem dX9_behindUnit_191 : decode cX9_behindUnit 191 = .ok (.iconst 0, 1) := by decide +kernel
theorem dX9_behindUnit_192 : decode cX9_behindUnit 192 = .ok (.ireturn, 1) := by decide +kernel
theorem in_X9_pushE_X9 : ∀ w ∈ wsX90, w ∈ wsX9_pushE := fun _ h => List.mem_cons_of_mem _ (List.mem_append_right _ h)
theorem in_X9_behindUnit_X9 : ∀ w ∈ wsX90, w ∈ wsX9_behindUnit := fun _ h => List.mem_cons_of_mem _ (List.mem_append_right _ h)
theorem in_X9_unit_X9 : ∀ w ∈ wsX90, w ∈ wsX9_unit := fun _ h => List.mem_cons_of_mem _ (List.mem_append_right _ h)
set_option maxHeartbeats 4000000 in
set_option maxRecDepth 100000 in
theorem s_X9_pushE_0 (l : Launch) (B0 : Nat) (adK adV : Nat → Nat) (D : va_G) (cy : Nat → ClassId) (ad : Nat → Nat) (fr0 : Nat → va_E) (c_text : Nat → Int32) (m_taped : Int32) (m_size : Int32) (m_faultKind : Int32) (m_faultPlace : Int32) (m_at : Int32) (m_end : Int32) (m_token : Int32) (m_number : Int32) (m_name : Int64) (c_points : Nat → Int32) (c_strands : Nat → Int32) (c_units : Nat → Int32) (c_told : Nat → Int32) (c_ruleFrom : Nat → Int32) (c_ruleTo : Nat → Int32) (c_code : Nat → Int32) (c_eWhat : Nat → Int32) (c_eSign : Nat → Int32) (m_bank : Int32) (m_rb : Int32) (m_codes : Int32) (m_within : Int32) (m_piled : Int32) (m_unitsInRule : Int32) (m_askStrand : Int32) (m_askTied : Int32) (m_thoughtClaim : Int32) (m_thoughtNeed : Int32) (m_thoughtAll : Int32) (c_roundOf : Nat → Int32) (m_acts : Int32) (m_undone : Int32) (m_laid : Int32) (m_firstMove : Int32) (m_seens : Int32) (m_time : Int32) (m_waysNow : Int32) (m_fitting : Int32) (f : Nat → va_E) (hT : TYm ad cy fr0 c_text m_taped m_size m_faultKind m_faultPlace m_at m_end m_token m_number m_name c_points c_strands c_units c_told c_ruleFrom c_ruleTo c_code c_eWhat c_eSign m_bank m_rb m_codes m_within m_piled m_unitsInRule m_askStrand m_askTied m_thoughtClaim m_thoughtNeed m_thoughtAll c_roundOf m_acts m_undone m_laid m_firstMove m_seens m_time m_waysNow m_fitting f) (p1 : Int32) (hp1 : 1 ≤ p1.toInt ∧ p1.toInt ≤ 8) (p2 : Int32) (hp2 : 0 ≤ p2.toInt ∧ p2.toInt ≤ 255) (hph_m_piled : 0 ≤ m_piled.toInt ∧ m_piled.toInt ≤ 89) (sz : Nat) : TtV l yX9_pushE wsX9_pushE 0 0 [.ref (ad 148), .int p1, .int p2] B0 adK adV D cy ad f sz (fun (g : Nat → va_E) => True ∧ (∃ (c_eWhat' : Nat → Int32) (c_eSign' : Nat → Int32) (m_piled' : Int32), TYm ad cy fr0 c_text m_taped m_size m_faultKind m_faultPlace m_at m_end m_token m_number m_name c_points c_strands c_units c_told c_ruleFrom c_ruleTo c_code c_eWhat' c_eSign' m_bank m_rb m_codes m_within m_piled' m_unitsInRule m_askStrand m_askTied m_thoughtClaim m_thoughtNeed m_thoughtAll c_roundOf m_acts m_undone m_laid m_firstMove m_seens m_time m_waysNow m_fitting g ∧ (1 ≤ m_piled'.toInt ∧ m_piled'.toInt ≤ 90) ∧ m_piled'.toInt = m_piled.toInt + 1 ∧ c_eWhat' = upd c_eWhat m_piled.toNatClampNeg p1 ∧ c_eSign' = upd c_eSign m_piled.toNatClampNeg p2)) := by
  refine TtV.of (cc := cX9_pushE) (maxL := 3) (own := RX9) (by decide) rfl (Nat.le_of_ble_eq_true rfl) rfl ?_
  intro p e s m below meth c A ls hx hb hr hml hts hown hlk hK hE hP hD hS hA hAB hl
  have hl : lv_has ls 3 [(0, .ref (ad 148)), (1, .int p1), (2, .int p2)] := hl
  refine st0 (fun H locs hP hS => ?_) hP hS
  refine lv_aload_n hx hb dX9_pushE_0 rfl (lv_at hl 0 rfl) ?_
  obtain ⟨e16, h1, h2, h3, h4, h5, h6, h7, h8, h9, h10, h11, h12, h13, h14, h15⟩ := (show okX9 ad m_taped m_size m_faultKind m_faultPlace m_at m_end m_token m_number m_name m_bank m_rb m_codes m_within m_piled m_unitsInRule m_askStrand m_askTied m_thoughtClaim m_thoughtNeed m_thoughtAll m_acts m_undone m_laid m_firstMove m_seens m_time m_waysNow m_fitting 148 (f 148) from hT.1 148 (by decide))
  refine va_get (D := D) (cl := vwCl) (ci := 9) (v := .ref (ad 166)) (C := RX9) (T := TX9) (N := 64) hx hb hts in_X9_pushE_X9 hown hK hP 148 (wl_at (by decide) e16) rfl 26 (by decide) (hts (.fieldLink RX9 67 "EightReasonsModel" "eWhat" "[I") (List.mem_of_getElem? (i := 1) rfl)) (fun _ h9 => h9) rfl dX9_pushE_1 ?_
  refine lv_aload_n hx hb dX9_pushE_4 rfl (lv_at hl 0 rfl) ?_
  refine va_get (D := D) (cl := vwCl) (ci := 9) (v := .int m_piled) (C := RX9) (T := TX9) (N := 64) hx hb hts in_X9_pushE_X9 hown hK hP 148 (wl_at (by decide) e16) rfl 33 (by decide) (hts (.fieldLink RX9 285 "EightReasonsModel" "piled" "I") (List.mem_of_getElem? (i := 2) rfl)) (fun _ h9 => h9) rfl dX9_pushE_5 ?_
  refine lv_iload_n hx hb dX9_pushE_8 rfl (lv_at hl 1 rfl) ?_
  have e17 : f 166 = _ := (show okIp cy 90 c_eWhat (f 166) from hT.1 166 (by decide))
  refine va_iast hx hb hK hP hD hS 166 0 (wl_at (by decide) e17) rfl (vp_in_iff.mpr ⟨by omega, by omega⟩) dX9_pushE_9 (fun H locs hP hD hS => ?_)
  obtain ⟨c18, ec18⟩ : ∃ q, q = upd c_eWhat (Int32.toNatClampNeg m_piled) p1 := ⟨_, rfl⟩
  rw [← ec18] at hP hD
  obtain ⟨f, hT, hP, hD, e19, hj20⟩ := stU (by decide) (TYm.p166 hT (show OKm ad cy c_text m_taped m_size m_faultKind m_faultPlace m_at m_end m_token m_number m_name c_points c_strands c_units c_told c_ruleFrom c_ruleTo c_code c18 c_eSign m_bank m_rb m_codes m_within m_piled m_unitsInRule m_askStrand m_askTied m_thoughtClaim m_thoughtNeed m_thoughtAll c_roundOf m_acts m_undone m_laid m_firstMove m_seens m_time m_waysNow m_fitting 166 _ from (show okIp cy 90 c18 _ from rfl))) hP hD
  have e21 := (hj20 148 (by decide)).trans e16
  refine lv_aload_n hx hb dX9_pushE_10 rfl (lv_at hl 0 rfl) ?_
  refine va_get (D := D) (cl := vwCl) (ci := 9) (v := .ref (ad 167)) (C := RX9) (T := TX9) (N := 64) hx hb hts in_X9_pushE_X9 hown hK hP 148 (wl_at (by decide) e21) rfl 27 (by decide) (hts (.fieldLink RX9 70 "EightReasonsModel" "eSign" "[I") (List.mem_of_getElem? (i := 3) rfl)) (fun _ h9 => h9) rfl dX9_pushE_11 ?_
  refine lv_aload_n hx hb dX9_pushE_14 rfl (lv_at hl 0 rfl) ?_
  refine va_get (D := D) (cl := vwCl) (ci := 9) (v := .int m_piled) (C := RX9) (T := TX9) (N := 64) hx hb hts in_X9_pushE_X9 hown hK hP 148 (wl_at (by decide) e21) rfl 33 (by decide) (hts (.fieldLink RX9 285 "EightReasonsModel" "piled" "I") (List.mem_of_getElem? (i := 2) rfl)) (fun _ h9 => h9) rfl dX9_pushE_15 ?_
  refine lv_iload_n hx hb dX9_pushE_18 rfl (lv_at hl 2 rfl) ?_
  have e22 : f 167 = _ := (show okIp cy 90 c_eSign (f 167) from hT.1 167 (by decide))
  refine va_iast hx hb hK hP hD hS 167 0 (wl_at (by decide) e22) rfl (vp_in_iff.mpr ⟨by omega, by omega⟩) dX9_pushE_19 (fun H locs hP hD hS => ?_)
  obtain ⟨c23, ec23⟩ : ∃ q, q = upd c_eSign (Int32.toNatClampNeg m_piled) p2 := ⟨_, rfl⟩
  rw [← ec23] at hP hD
  obtain ⟨f, hT, hP, hD, e24, hj25⟩ := stU (by decide) (TYm.p167 hT (show OKm ad cy c_text m_taped m_size m_faultKind m_faultPlace m_at m_end m_token m_number m_name c_points c_strands c_units c_told c_ruleFrom c_ruleTo c_code c18 c23 m_bank m_rb m_codes m_within m_piled m_unitsInRule m_askStrand m_askTied m_thoughtClaim m_thoughtNeed m_thoughtAll c_roundOf m_acts m_undone m_laid m_firstMove m_seens m_time m_waysNow m_fitting 167 _ from (show okIp cy 90 c23 _ from rfl))) hP hD
  have e26 := (hj25 148 (by decide)).trans e21
  refine lv_aload_n hx hb dX9_pushE_20 rfl (lv_at hl 0 rfl) ?_
  refine lv_dup hx hb dX9_pushE_21 rfl ?_
  refine va_get (D := D) (cl := vwCl) (ci := 9) (v := .int m_piled) (C := RX9) (T := TX9) (N := 64) hx hb hts in_X9_pushE_X9 hown hK hP 148 (wl_at (by decide) e26) rfl 33 (by decide) (hts (.fieldLink RX9 285 "EightReasonsModel" "piled" "I") (List.mem_of_getElem? (i := 2) rfl)) (fun _ h9 => h9) rfl dX9_pushE_22 ?_
  refine lv_iconst (v := 1) hx hb dX9_pushE_25 (by decide) ?_
  have ttl_1 := tl_1
  refine lv_iadd hx hb dX9_pushE_26 ?_
  refine lv_topi (fun x27 ex27 => ?_)
  have hx27 := r_add ex27 (by omega) (by omega)
  refine va_put (D := D) (cl := vwCl) (ci := 9) (v := .int x27) (ty := tyX9 33) (C := RX9) (T := TX9) (N := 64) hx hb hts in_X9_pushE_X9 tyX9 tyX9_ok nmX9 hown hK hP hD hS 148 (wl_at (by decide) e26) rfl 33 (by decide) (hts (.fieldLink RX9 285 "EightReasonsModel" "piled" "I") (List.mem_of_getElem? (i := 2) rfl)) (fun _ h9 => h9) rfl (tyX9_ok 33 (by decide)) rfl rfl (Nat.le_of_ble_eq_true rfl) dX9_pushE_27 (fun H locs hP hD hS => ?_)
  obtain ⟨f, hT, hP, hD, e28, hj29⟩ := stU (by decide) (TYm.p148 hT (show OKm ad cy c_text m_taped m_size m_faultKind m_faultPlace m_at m_end m_token m_number m_name c_points c_strands c_units c_told c_ruleFrom c_ruleTo c_code c18 c23 m_bank m_rb m_codes m_within x27 m_unitsInRule m_askStrand m_askTied m_thoughtClaim m_thoughtNeed m_thoughtAll c_roundOf m_acts m_undone m_laid m_firstMove m_seens m_time m_waysNow m_fitting 148 _ from (show okX9 ad m_taped m_size m_faultKind m_faultPlace m_at m_end m_token m_number m_name m_bank m_rb m_codes m_within x27 m_unitsInRule m_askStrand m_askTied m_thoughtClaim m_thoughtNeed m_thoughtAll m_acts m_undone m_laid m_firstMove m_seens m_time m_waysNow m_fitting 148 _ from ⟨rfl, by omega, by omega, by omega, by omega, by omega, by omega, by omega, by omega, by omega, by omega, by omega, by omega, by omega, by omega, by omega⟩))) hP hD
  exact tV hx hb hr hlk hP hS ⟨trivial, ⟨c18, c23, x27, hT, by omega, by omega, ec18, ec23⟩⟩ dX9_pushE_30
set_option maxHeartbeats 4000000 in
set_option maxRecDepth 100000 in
theorem s_X9_rankHere_0 (l : Launch) (B0 : Nat) (adK adV : Nat → Nat) (D : va_G) (cy : Nat → ClassId) (ad : Nat → Nat) (fr0 : Nat → va_E) (c_text : Nat → Int32) (m_taped : Int32) (m_size : Int32) (m_faultKind : Int32) (m_faultPlace : Int32) (m_at : Int32) (m_end : Int32) (m_token : Int32) (m_number : Int32) (m_name : Int64) (c_points : Nat → Int32) (c_strands : Nat → Int32) (c_units : Nat → Int32) (c_told : Nat → Int32) (c_ruleFrom : Nat → Int32) (c_ruleTo : Nat → Int32) (c_code : Nat → Int32) (c_eWhat : Nat → Int32) (c_eSign : Nat → Int32) (m_bank : Int32) (m_rb : Int32) (m_codes : Int32) (m_within : Int32) (m_piled : Int32) (m_unitsInRule : Int32) (m_askStrand : Int32) (m_askTied : Int32) (m_thoughtClaim : Int32) (m_thoughtNeed : Int32) (m_thoughtAll : Int32) (c_roundOf : Nat → Int32) (m_acts : Int32) (m_undone : Int32) (m_laid : Int32) (m_firstMove : Int32) (m_seens : Int32) (m_time : Int32) (m_waysNow : Int32) (m_fitting : Int32) (f : Nat → va_E) (hT : TYm ad cy fr0 c_text m_taped m_size m_faultKind m_faultPlace m_at m_end m_token m_number m_name c_points c_strands c_units c_told c_ruleFrom c_ruleTo c_code c_eWhat c_eSign m_bank m_rb m_codes m_within m_piled m_unitsInRule m_askStrand m_askTied m_thoughtClaim m_thoughtNeed m_thoughtAll c_roundOf m_acts m_undone m_laid m_firstMove m_seens m_time m_waysNow m_fitting f) (sz : Nat) : TtI l yX9_rankHere wsX9_rankHere 2 42 [.ref (ad 148)] B0 adK adV D cy ad f sz (fun (r : Int32) (g : Nat → va_E) => ((r = 2 ∧ 1 ≤ m_token.toInt) ∨ (r = 1 ∧ 1 ≤ m_token.toInt) ∨ (r = 4 ∧ 1 ≤ m_token.toInt ∧ (37 ≤ (sgF c_text m_size m_at).toInt ∧ (sgF c_text m_size m_at).toInt ≤ 62)) ∨ (r = 5 ∧ 1 ≤ m_token.toInt ∧ (37 ≤ (sgF c_text m_size m_at).toInt ∧ (sgF c_text m_size m_at).toInt ≤ 62)) ∨ (r = 6 ∧ 1 ≤ m_token.toInt ∧ (37 ≤ (sgF c_text m_size m_at).toInt ∧ (sgF c_text m_size m_at).toInt ≤ 62)) ∨ (r = 0)) ∧ (f = g)) := by
  refine TtI.of (cc := cX9_rankHere) (maxL := 1) (ty := .int) (own := RX9) (by decide) rfl (Nat.le_of_ble_eq_true rfl) rfl ?_
  intro p e s m below meth c A ls hx hb hr hml hts hown hlk hK hE hP hD hS hA hAB hl
  have hl : lv_has ls 1 [(0, .ref (ad 148))] := hl
  refine st0 (fun H locs hP hS => ?_) hP hS
  refine lv_aload_n hx hb dX9_rankHere_0 rfl (lv_at hl 0 rfl) ?_
  have ttlj_6385252 := tlj_6385252
  refine lv_ldc2 (v := 6385252) hx hb hown (hts (.constantLong RX9 167 (6385252)) (List.mem_of_getElem? (i := 1) rfl)) dX9_rankHere_1 ?_
  obtain ⟨e16, h1, h2, h3, h4, h5, h6, h7, h8, h9, h10, h11, h12, h13, h14, h15⟩ := (show okX9 ad m_taped m_size m_faultKind m_faultPlace m_at m_end m_token m_number m_name m_bank m_rb m_codes m_within m_piled m_unitsInRule m_askStrand m_askTied m_thoughtClaim m_thoughtNeed m_thoughtAll m_acts m_undone m_laid m_firstMove m_seens m_time m_waysNow m_fitting 148 (f 148) from hT.1 148 (by decide))
  refine tVI (As := [.long 6385252]) (rest := []) (i := 148) ⟨hx, hb, hml, hown, hts⟩ hK hE hP hD hS hA hAB (s_X9_isWord_0 l B0 adK adV D cy ad fr0 c_text m_taped m_size m_faultKind m_faultPlace m_at m_end m_token m_number m_name c_points c_strands c_units c_told c_ruleFrom c_ruleTo c_code c_eWhat c_eSign m_bank m_rb m_codes m_within m_piled m_unitsInRule m_askStrand m_askTied m_thoughtClaim m_thoughtNeed m_thoughtAll c_roundOf m_acts m_undone m_laid m_firstMove m_seens m_time m_waysNow m_fitting f hT (6385252 : Int64) _) (cwV 1 hts gX9_rankHere_X9_isWord rfl rfl rfl (by decide +kernel) ⟨Nat.le_of_ble_eq_true rfl, Nat.le_of_ble_eq_true rfl⟩) (by decide) 9 e16 rfl rfl hl.1 rfl (Nat.le_of_ble_eq_true rfl) dX9_rankHere_4 ⟨Nat.le_of_ble_eq_true rfl, Nat.le_of_ble_eq_true rfl⟩ (fun r g H locs hw hP hD hS => ?_)
  obtain ⟨hrs, rfl⟩ := hw
  obtain ⟨x17, rfl⟩ : ∃ q, q = r := ⟨_, rfl⟩
  rcases hrs with ⟨rfl, h18, h19⟩ | ⟨rfl, h20⟩
  · refine lv_if_eq (tgt := 12) hx hb dX9_rankHere_7 (by decide) (fun c => absurd c (by decide)) (fun _ => ?_)
    refine lv_iconst (v := 2) hx hb dX9_rankHere_10 (by decide) ?_
    have ttl_2 := tl_2
    exact tI hx hb hr hlk rfl hP hS ⟨(Or.inl ⟨rfl, by omega⟩), rfl⟩ dX9_rankHere_11
  · refine lv_if_eq (tgt := 12) hx hb dX9_rankHere_7 (by decide) (fun _ => ?_) (fun c => absurd (by decide) c)
    refine lv_aload_n hx hb dX9_rankHere_12 rfl (lv_at hl 0 rfl) ?_
    have ttlj_28530 := tlj_28530
    refine lv_ldc2 (v := 28530) hx hb hown (hts (.constantLong RX9 165 (28530)) (List.mem_of_getElem? (i := 2) rfl)) dX9_rankHere_13 ?_
    refine tVI (As := [.long 28530]) (rest := []) (i := 148) ⟨hx, hb, hml, hown, hts⟩ hK hE hP hD hS hA hAB (s_X9_isWord_0 l B0 adK adV D cy ad fr0 c_text m_taped m_size m_faultKind m_faultPlace m_at m_end m_token m_number m_name c_points c_strands c_units c_told c_ruleFrom c_ruleTo c_code c_eWhat c_eSign m_bank m_rb m_codes m_within m_piled m_unitsInRule m_askStrand m_askTied m_thoughtClaim m_thoughtNeed m_thoughtAll c_roundOf m_acts m_undone m_laid m_firstMove m_seens m_time m_waysNow m_fitting f hT (28530 : Int64) _) (cwV 1 hts gX9_rankHere_X9_isWord rfl rfl rfl (by decide +kernel) ⟨Nat.le_of_ble_eq_true rfl, Nat.le_of_ble_eq_true rfl⟩) (by decide) 9 e16 rfl rfl hl.1 rfl (Nat.le_of_ble_eq_true rfl) dX9_rankHere_16 ⟨Nat.le_of_ble_eq_true rfl, Nat.le_of_ble_eq_true rfl⟩ (fun r g H locs hw hP hD hS => ?_)
    obtain ⟨hrs, rfl⟩ := hw
    obtain ⟨x21, rfl⟩ : ∃ q, q = r := ⟨_, rfl⟩
    rcases hrs with ⟨rfl, h22, h23⟩ | ⟨rfl, h24⟩
    · refine lv_if_eq (tgt := 24) hx hb dX9_rankHere_19 (by decide) (fun c => absurd c (by decide)) (fun _ => ?_)
      refine lv_iconst (v := 1) hx hb dX9_rankHere_22 (by decide) ?_
      have ttl_1 := tl_1
      exact tI hx hb hr hlk rfl hP hS ⟨(Or.inr (Or.inl ⟨rfl, by omega⟩)), rfl⟩ dX9_rankHere_23
    · refine lv_if_eq (tgt := 24) hx hb dX9_rankHere_19 (by decide) (fun _ => ?_) (fun c => absurd (by decide) c)
      refine lv_aload_n hx hb dX9_rankHere_24 rfl (lv_at hl 0 rfl) ?_
      refine lv_bipush (v := 60) hx hb dX9_rankHere_25 (by decide) ?_
      have ttl_60 := tl_60
      refine tVI (As := [.int 60]) (rest := []) (i := 148) ⟨hx, hb, hml, hown, hts⟩ hK hE hP hD hS hA hAB (s_X9_isSignHere_0 l B0 adK adV D cy ad fr0 c_text m_taped m_size m_faultKind m_faultPlace m_at m_end m_token m_number m_name c_points c_strands c_units c_told c_ruleFrom c_ruleTo c_code c_eWhat c_eSign m_bank m_rb m_codes m_within m_piled m_unitsInRule m_askStrand m_askTied m_thoughtClaim m_thoughtNeed m_thoughtAll c_roundOf m_acts m_undone m_laid m_firstMove m_seens m_time m_waysNow m_fitting f hT (60 : Int32) (by omega) _) (cwV 1 hts gX9_rankHere_X9_isSignHere rfl rfl rfl (by decide +kernel) ⟨Nat.le_of_ble_eq_true rfl, Nat.le_of_ble_eq_true rfl⟩) (by decide) 9 e16 rfl rfl hl.1 rfl (Nat.le_of_ble_eq_true rfl) dX9_rankHere_27 ⟨Nat.le_of_ble_eq_true rfl, Nat.le_of_ble_eq_true rfl⟩ (fun r g H locs hw hP hD hS => ?_)
      obtain ⟨hrs, rfl⟩ := hw
      obtain ⟨x25, rfl⟩ : ∃ q, q = r := ⟨_, rfl⟩
      rcases hrs with ⟨rfl, h26, h27⟩ | rfl
      · refine lv_if_ne (tgt := 51) hx hb dX9_rankHere_30 (by decide) (fun _ => ?_) (fun c => absurd c (by decide))
        refine lv_iconst (v := 4) hx hb dX9_rankHere_51 (by decide) ?_
        have ttl_4 := tl_4
        exact tI hx hb hr hlk rfl hP hS ⟨(Or.inr (Or.inr (Or.inl ⟨rfl, by omega, by omega⟩))), rfl⟩ dX9_rankHere_52
      · refine lv_if_ne (tgt := 51) hx hb dX9_rankHere_30 (by decide) (fun c => absurd (by decide) c) (fun _ => ?_)
        refine lv_aload_n hx hb dX9_rankHere_33 rfl (lv_at hl 0 rfl) ?_
        refine lv_bipush (v := 62) hx hb dX9_rankHere_34 (by decide) ?_
        have ttl_62 := tl_62
        refine tVI (As := [.int 62]) (rest := []) (i := 148) ⟨hx, hb, hml, hown, hts⟩ hK hE hP hD hS hA hAB (s_X9_isSignHere_0 l B0 adK adV D cy ad fr0 c_text m_taped m_size m_faultKind m_faultPlace m_at m_end m_token m_number m_name c_points c_strands c_units c_told c_ruleFrom c_ruleTo c_code c_eWhat c_eSign m_bank m_rb m_codes m_within m_piled m_unitsInRule m_askStrand m_askTied m_thoughtClaim m_thoughtNeed m_thoughtAll c_roundOf m_acts m_undone m_laid m_firstMove m_seens m_time m_waysNow m_fitting f hT (62 : Int32) (by omega) _) (cwV 1 hts gX9_rankHere_X9_isSignHere rfl rfl rfl (by decide +kernel) ⟨Nat.le_of_ble_eq_true rfl, Nat.le_of_ble_eq_true rfl⟩) (by decide) 9 e16 rfl rfl hl.1 rfl (Nat.le_of_ble_eq_true rfl) dX9_rankHere_36 ⟨Nat.le_of_ble_eq_true rfl, Nat.le_of_ble_eq_true rfl⟩ (fun r g H locs hw hP hD hS => ?_)
        obtain ⟨hrs, rfl⟩ := hw
        obtain ⟨x28, rfl⟩ : ∃ q, q = r := ⟨_, rfl⟩
        rcases hrs with ⟨rfl, h29, h30⟩ | rfl
        · refine lv_if_ne (tgt := 51) hx hb dX9_rankHere_39 (by decide) (fun _ => ?_) (fun c => absurd c (by decide))
          refine lv_iconst (v := 4) hx hb dX9_rankHere_51 (by decide) ?_
          have ttl_4 := tl_4
          exact tI hx hb hr hlk rfl hP hS ⟨(Or.inr (Or.inr (Or.inl ⟨rfl, by omega, by omega⟩))), rfl⟩ dX9_rankHere_52
        · refine lv_if_ne (tgt := 51) hx hb dX9_rankHere_39 (by decide) (fun c => absurd (by decide) c) (fun _ => ?_)
          refine lv_aload_n hx hb dX9_rankHere_42 rfl (lv_at hl 0 rfl) ?_
          refine lv_bipush (v := 61) hx hb dX9_rankHere_43 (by decide) ?_
          have ttl_61 := tl_61
          refine tVI (As := [.int 61]) (rest := []) (i := 148) ⟨hx, hb, hml, hown, hts⟩ hK hE hP hD hS hA hAB (s_X9_isSignHere_0 l B0 adK adV D cy ad fr0 c_text m_taped m_size m_faultKind m_faultPlace m_at m_end m_token m_number m_name c_points c_strands c_units c_told c_ruleFrom c_ruleTo c_code c_eWhat c_eSign m_bank m_rb m_codes m_within m_piled m_unitsInRule m_askStrand m_askTied m_thoughtClaim m_thoughtNeed m_thoughtAll c_roundOf m_acts m_undone m_laid m_firstMove m_seens m_time m_waysNow m_fitting f hT (61 : Int32) (by omega) _) (cwV 1 hts gX9_rankHere_X9_isSignHere rfl rfl rfl (by decide +kernel) ⟨Nat.le_of_ble_eq_true rfl, Nat.le_of_ble_eq_true rfl⟩) (by decide) 9 e16 rfl rfl hl.1 rfl (Nat.le_of_ble_eq_true rfl) dX9_rankHere_45 ⟨Nat.le_of_ble_eq_true rfl, Nat.le_of_ble_eq_true rfl⟩ (fun r g H locs hw hP hD hS => ?_)
          obtain ⟨hrs, rfl⟩ := hw
          obtain ⟨x31, rfl⟩ : ∃ q, q = r := ⟨_, rfl⟩
          rcases hrs with ⟨rfl, h32, h33⟩ | rfl
          · refine lv_if_eq (tgt := 53) hx hb dX9_rankHere_48 (by decide) (fun c => absurd c (by decide)) (fun _ => ?_)
            refine lv_iconst (v := 4) hx hb dX9_rankHere_51 (by decide) ?_
            have ttl_4 := tl_4
            exact tI hx hb hr hlk rfl hP hS ⟨(Or.inr (Or.inr (Or.inl ⟨rfl, by omega, by omega⟩))), rfl⟩ dX9_rankHere_52
          · refine lv_if_eq (tgt := 53) hx hb dX9_rankHere_48 (by decide) (fun _ => ?_) (fun c => absurd (by decide) c)
            refine lv_aload_n hx hb dX9_rankHere_53 rfl (lv_at hl 0 rfl) ?_
            refine lv_bipush (v := 43) hx hb dX9_rankHere_54 (by decide) ?_
            have ttl_43 := tl_43
            refine tVI (As := [.int 43]) (rest := []) (i := 148) ⟨hx, hb, hml, hown, hts⟩ hK hE hP hD hS hA hAB (s_X9_isSignHere_0 l B0 adK adV D cy ad fr0 c_text m_taped m_size m_faultKind m_faultPlace m_at m_end m_token m_number m_name c_points c_strands c_units c_told c_ruleFrom c_ruleTo c_code c_eWhat c_eSign m_bank m_rb m_codes m_within m_piled m_unitsInRule m_askStrand m_askTied m_thoughtClaim m_thoughtNeed m_thoughtAll c_roundOf m_acts m_undone m_laid m_firstMove m_seens m_time m_waysNow m_fitting f hT (43 : Int32) (by omega) _) (cwV 1 hts gX9_rankHere_X9_isSignHere rfl rfl rfl (by decide +kernel) ⟨Nat.le_of_ble_eq_true rfl, Nat.le_of_ble_eq_true rfl⟩) (by decide) 9 e16 rfl rfl hl.1 rfl (Nat.le_of_ble_eq_true rfl) dX9_rankHere_56 ⟨Nat.le_of_ble_eq_true rfl, Nat.le_of_ble_eq_true rfl⟩ (fun r g H locs hw hP hD hS => ?_)
            obtain ⟨hrs, rfl⟩ := hw
            obtain ⟨x34, rfl⟩ : ∃ q, q = r := ⟨_, rfl⟩
            rcases hrs with ⟨rfl, h35, h36⟩ | rfl
            · refine lv_if_ne (tgt := 71) hx hb dX9_rankHere_59 (by decide) (fun _ => ?_) (fun c => absurd c (by decide))
              refine lv_iconst (v := 5) hx hb dX9_rankHere_71 (by decide) ?_
              have ttl_5 := tl_5
              exact tI hx hb hr hlk rfl hP hS ⟨(Or.inr (Or.inr (Or.inr (Or.inl ⟨rfl, by omega, by omega⟩)))), rfl⟩ dX9_rankHere_72
            · refine lv_if_ne (tgt := 71) hx hb dX9_rankHere_59 (by decide) (fun c => absurd (by decide) c) (fun _ => ?_)
              refine lv_aload_n hx hb dX9_rankHere_62 rfl (lv_at hl 0 rfl) ?_
              refine lv_bipush (v := 45) hx hb dX9_rankHere_63 (by decide) ?_
              have ttl_45 := tl_45
              refine tVI (As := [.int 45]) (rest := []) (i := 148) ⟨hx, hb, hml, hown, hts⟩ hK hE hP hD hS hA hAB (s_X9_isSignHere_0 l B0 adK adV D cy ad fr0 c_text m_taped m_size m_faultKind m_faultPlace m_at m_end m_token m_number m_name c_points c_strands c_units c_told c_ruleFrom c_ruleTo c_code c_eWhat c_eSign m_bank m_rb m_codes m_within m_piled m_unitsInRule m_askStrand m_askTied m_thoughtClaim m_thoughtNeed m_thoughtAll c_roundOf m_acts m_undone m_laid m_firstMove m_seens m_time m_waysNow m_fitting f hT (45 : Int32) (by omega) _) (cwV 1 hts gX9_rankHere_X9_isSignHere rfl rfl rfl (by decide +kernel) ⟨Nat.le_of_ble_eq_true rfl, Nat.le_of_ble_eq_true rfl⟩) (by decide) 9 e16 rfl rfl hl.1 rfl (Nat.le_of_ble_eq_true rfl) dX9_rankHere_65 ⟨Nat.le_of_ble_eq_true rfl, Nat.le_of_ble_eq_true rfl⟩ (fun r g H locs hw hP hD hS => ?_)
              obtain ⟨hrs, rfl⟩ := hw
              obtain ⟨x37, rfl⟩ : ∃ q, q = r := ⟨_, rfl⟩
              rcases hrs with ⟨rfl, h38, h39⟩ | rfl
              · refine lv_if_eq (tgt := 73) hx hb dX9_rankHere_68 (by decide) (fun c => absurd c (by decide)) (fun _ => ?_)
                refine lv_iconst (v := 5) hx hb dX9_rankHere_71 (by decide) ?_
                have ttl_5 := tl_5
                exact tI hx hb hr hlk rfl hP hS ⟨(Or.inr (Or.inr (Or.inr (Or.inl ⟨rfl, by omega, by omega⟩)))), rfl⟩ dX9_rankHere_72
              · refine lv_if_eq (tgt := 73) hx hb dX9_rankHere_68 (by decide) (fun _ => ?_) (fun c => absurd (by decide) c)
                refine lv_aload_n hx hb dX9_rankHere_73 rfl (lv_at hl 0 rfl) ?_
                refine lv_bipush (v := 42) hx hb dX9_rankHere_74 (by decide) ?_
                have ttl_42 := tl_42
                refine tVI (As := [.int 42]) (rest := []) (i := 148) ⟨hx, hb, hml, hown, hts⟩ hK hE hP hD hS hA hAB (s_X9_isSignHere_0 l B0 adK adV D cy ad fr0 c_text m_taped m_size m_faultKind m_faultPlace m_at m_end m_token m_number m_name c_points c_strands c_units c_told c_ruleFrom c_ruleTo c_code c_eWhat c_eSign m_bank m_rb m_codes m_within m_piled m_unitsInRule m_askStrand m_askTied m_thoughtClaim m_thoughtNeed m_thoughtAll c_roundOf m_acts m_undone m_laid m_firstMove m_seens m_time m_waysNow m_fitting f hT (42 : Int32) (by omega) _) (cwV 1 hts gX9_rankHere_X9_isSignHere rfl rfl rfl (by decide +kernel) ⟨Nat.le_of_ble_eq_true rfl, Nat.le_of_ble_eq_true rfl⟩) (by decide) 9 e16 rfl rfl hl.1 rfl (Nat.le_of_ble_eq_true rfl) dX9_rankHere_76 ⟨Nat.le_of_ble_eq_true rfl, Nat.le_of_ble_eq_true rfl⟩ (fun r g H locs hw hP hD hS => ?_)
                obtain ⟨hrs, rfl⟩ := hw
                obtain ⟨x40, rfl⟩ : ∃ q, q = r := ⟨_, rfl⟩
                rcases hrs with ⟨rfl, h41, h42⟩ | rfl
                · refine lv_if_ne (tgt := 100) hx hb dX9_rankHere_79 (by decide) (fun _ => ?_) (fun c => absurd c (by decide))
                  refine lv_bipush (v := 6) hx hb dX9_rankHere_100 (by decide) ?_
                  refine lv_goto (tgt := 106) hx hb dX9_rankHere_102 (by decide) ?_
                  have ttl_6 := tl_6
                  exact tI hx hb hr hlk rfl hP hS ⟨(Or.inr (Or.inr (Or.inr (Or.inr (Or.inl ⟨rfl, by omega, by omega⟩))))), rfl⟩ dX9_rankHere_106
                · refine lv_if_ne (tgt := 100) hx hb dX9_rankHere_79 (by decide) (fun c => absurd (by decide) c) (fun _ => ?_)
                  refine lv_aload_n hx hb dX9_rankHere_82 rfl (lv_at hl 0 rfl) ?_
                  refine lv_bipush (v := 47) hx hb dX9_rankHere_83 (by decide) ?_
                  have ttl_47 := tl_47
                  refine tVI (As := [.int 47]) (rest := []) (i := 148) ⟨hx, hb, hml, hown, hts⟩ hK hE hP hD hS hA hAB (s_X9_isSignHere_0 l B0 adK adV D cy ad fr0 c_text m_taped m_size m_faultKind m_faultPlace m_at m_end m_token m_number m_name c_points c_strands c_units c_told c_ruleFrom c_ruleTo c_code c_eWhat c_eSign m_bank m_rb m_codes m_within m_piled m_unitsInRule m_askStrand m_askTied m_thoughtClaim m_thoughtNeed m_thoughtAll c_roundOf m_acts m_undone m_laid m_firstMove m_seens m_time m_waysNow m_fitting f hT (47 : Int32) (by omega) _) (cwV 1 hts gX9_rankHere_X9_isSignHere rfl rfl rfl (by decide +kernel) ⟨Nat.le_of_ble_eq_true rfl, Nat.le_of_ble_eq_true rfl⟩) (by decide) 9 e16 rfl rfl hl.1 rfl (Nat.le_of_ble_eq_true rfl) dX9_rankHere_85 ⟨Nat.le_of_ble_eq_true rfl, Nat.le_of_ble_eq_true rfl⟩ (fun r g H locs hw hP hD hS => ?_)
                  obtain ⟨hrs, rfl⟩ := hw
                  obtain ⟨x43, rfl⟩ : ∃ q, q = r := ⟨_, rfl⟩
                  rcases hrs with ⟨rfl, h44, h45⟩ | rfl
                  · refine lv_if_ne (tgt := 100) hx hb dX9_rankHere_88 (by decide) (fun _ => ?_) (fun c => absurd c (by decide))
                    refine lv_bipush (v := 6) hx hb dX9_rankHere_100 (by decide) ?_
                    refine lv_goto (tgt := 106) hx hb dX9_rankHere_102 (by decide) ?_
                    have ttl_6 := tl_6
                    exact tI hx hb hr hlk rfl hP hS ⟨(Or.inr (Or.inr (Or.inr (Or.inr (Or.inl ⟨rfl, by omega, by omega⟩))))), rfl⟩ dX9_rankHere_106
                  · refine lv_if_ne (tgt := 100) hx hb dX9_rankHere_88 (by decide) (fun c => absurd (by decide) c) (fun _ => ?_)
                    refine lv_aload_n hx hb dX9_rankHere_91 rfl (lv_at hl 0 rfl) ?_
                    refine lv_bipush (v := 37) hx hb dX9_rankHere_92 (by decide) ?_
                    have ttl_37 := tl_37
                    refine tVI (As := [.int 37]) (rest := []) (i := 148) ⟨hx, hb, hml, hown, hts⟩ hK hE hP hD hS hA hAB (s_X9_isSignHere_0 l B0 adK adV D cy ad fr0 c_text m_taped m_size m_faultKind m_faultPlace m_at m_end m_token m_number m_name c_points c_strands c_units c_told c_ruleFrom c_ruleTo c_code c_eWhat c_eSign m_bank m_rb m_codes m_within m_piled m_unitsInRule m_askStrand m_askTied m_thoughtClaim m_thoughtNeed m_thoughtAll c_roundOf m_acts m_undone m_laid m_firstMove m_seens m_time m_waysNow m_fitting f hT (37 : Int32) (by omega) _) (cwV 1 hts gX9_rankHere_X9_isSignHere rfl rfl rfl (by decide +kernel) ⟨Nat.le_of_ble_eq_true rfl, Nat.le_of_ble_eq_true rfl⟩) (by decide) 9 e16 rfl rfl hl.1 rfl (Nat.le_of_ble_eq_true rfl) dX9_rankHere_94 ⟨Nat.le_of_ble_eq_true rfl, Nat.le_of_ble_eq_true rfl⟩ (fun r g H locs hw hP hD hS => ?_)
                    obtain ⟨hrs, rfl⟩ := hw
                    obtain ⟨x46, rfl⟩ : ∃ q, q = r := ⟨_, rfl⟩
                    rcases hrs with ⟨rfl, h47, h48⟩ | rfl
                    · refine lv_if_eq (tgt := 105) hx hb dX9_rankHere_97 (by decide) (fun c => absurd c (by decide)) (fun _ => ?_)
                      refine lv_bipush (v := 6) hx hb dX9_rankHere_100 (by decide) ?_
                      refine lv_goto (tgt := 106) hx hb dX9_rankHere_102 (by decide) ?_
                      have ttl_6 := tl_6
                      exact tI hx hb hr hlk rfl hP hS ⟨(Or.inr (Or.inr (Or.inr (Or.inr (Or.inl ⟨rfl, by omega, by omega⟩))))), rfl⟩ dX9_rankHere_106
                    · refine lv_if_eq (tgt := 105) hx hb dX9_rankHere_97 (by decide) (fun _ => ?_) (fun c => absurd (by decide) c)
                      refine lv_iconst (v := 0) hx hb dX9_rankHere_105 (by decide) ?_
                      have ttl_0 := tl_0
                      exact tI hx hb hr hlk rfl hP hS ⟨(Or.inr (Or.inr (Or.inr (Or.inr (Or.inr rfl))))), rfl⟩ dX9_rankHere_106
set_option maxHeartbeats 4000000 in
set_option maxRecDepth 100000 in
theorem s_X9_behindUnit_0 (l : Launch) (B0 : Nat) (adK adV : Nat → Nat) (D : va_G) (cy : Nat → ClassId) (ad : Nat → Nat) (fr0 : Nat → va_E) (c_text : Nat → Int32) (m_taped : Int32) (m_size : Int32) (m_faultKind : Int32) (m_faultPlace : Int32) (m_at : Int32) (m_end : Int32) (m_token : Int32) (m_number : Int32) (m_name : Int64) (c_points : Nat → Int32) (c_strands : Nat → Int32) (c_units : Nat → Int32) (c_told : Nat → Int32) (c_ruleFrom : Nat → Int32) (c_ruleTo : Nat → Int32) (c_code : Nat → Int32) (c_eWhat : Nat → Int32) (c_eSign : Nat → Int32) (m_bank : Int32) (m_rb : Int32) (m_codes : Int32) (m_within : Int32) (m_piled : Int32) (m_unitsInRule : Int32) (m_askStrand : Int32) (m_askTied : Int32) (m_thoughtClaim : Int32) (m_thoughtNeed : Int32) (m_thoughtAll : Int32) (c_roundOf : Nat → Int32) (m_acts : Int32) (m_undone : Int32) (m_laid : Int32) (m_firstMove : Int32) (m_seens : Int32) (m_time : Int32) (m_waysNow : Int32) (m_fitting : Int32) (f : Nat → va_E) (hT : TYm ad cy fr0 c_text m_taped m_size m_faultKind m_faultPlace m_at m_end m_token m_number m_name c_points c_strands c_units c_told c_ruleFrom c_ruleTo c_code c_eWhat c_eSign m_bank m_rb m_codes m_within m_piled m_unitsInRule m_askStrand m_askTied m_thoughtClaim m_thoughtNeed m_thoughtAll c_roundOf m_acts m_undone m_laid m_firstMove m_seens m_time m_waysNow m_fitting f) (hph_m_end : 0 ≤ m_end.toInt ∧ m_end.toInt ≤ 1600) (hh0 : ((m_token.toInt = 0 ∧ m_at.toInt = m_size.toInt ∧ m_end.toInt = m_size.toInt) ∨ (1 ≤ m_token.toInt ∧ m_at.toInt < m_end.toInt ∧ m_end.toInt ≤ m_size.toInt))) (hh1 : (0 ≤ m_within.toInt ∧ m_within.toInt ≤ 7 ∧ m_within.toInt = cQZ c_eWhat m_piled.toInt)) (hh2 : (0 ≤ m_unitsInRule.toInt ∧ m_unitsInRule.toInt ≤ 30)) (hh3 : ((c_ruleFrom m_rb.toNatClampNeg).toInt = 560 * m_rb.toInt ∧ 0 ≤ m_rb.toInt ∧ m_rb.toInt ≤ 1 ∧ (c_ruleFrom m_rb.toNatClampNeg).toInt ≤ m_codes.toInt)) (hh4 : (dpZ c_code (c_ruleFrom m_rb.toNatClampNeg) m_codes.toInt ≤ m_unitsInRule.toInt ∧ 0 ≤ cPZ c_eWhat m_piled.toInt)) (hh5 : (m_piled.toInt ≤ 1 + m_within.toInt + cPZ c_eWhat m_piled.toInt ∧ 0 ≤ m_piled.toInt)) (hh6 : (cPZ c_eWhat m_piled.toInt + 1 ≤ dpZ c_code (c_ruleFrom m_rb.toNatClampNeg) m_codes.toInt ∧ m_codes.toInt - (c_ruleFrom m_rb.toNatClampNeg).toInt + dpZ c_code (c_ruleFrom m_rb.toNatClampNeg) m_codes.toInt + m_within.toInt ≤ 16 * m_unitsInRule.toInt)) (hh7 : 1 ≤ m_piled.toInt) (hSG : SGp c_eWhat c_eSign m_piled.toInt) (hOK : okcZ c_code (c_ruleFrom m_rb.toNatClampNeg) m_codes.toInt) (sz : Nat) : TtI l yX9_behindUnit wsX9_behindUnit 3 65 [.ref (ad 148)] B0 adK adV D cy ad f sz (fun (r : Int32) (g : Nat → va_E) => ((r = 1) ∨ (r = 0)) ∧ (∃ (m_faultKind' : Int32) (m_faultPlace' : Int32) (m_at' : Int32) (m_end' : Int32) (m_token' : Int32) (m_number' : Int32) (m_name' : Int64) (c_code' : Nat → Int32) (c_eWhat' : Nat → Int32) (c_eSign' : Nat → Int32) (m_codes' : Int32) (m_within' : Int32) (m_piled' : Int32), TYm ad cy fr0 c_text m_taped m_size m_faultKind' m_faultPlace' m_at' m_end' m_token' m_number' m_name' c_points c_strands c_units c_told c_ruleFrom c_ruleTo c_code' c_eWhat' c_eSign' m_bank m_rb m_codes' m_within' m_piled' m_unitsInRule m_askStrand m_askTied m_thoughtClaim m_thoughtNeed m_thoughtAll c_roundOf m_acts m_undone m_laid m_firstMove m_seens m_time m_waysNow m_fitting g ∧ (0 ≤ m_end'.toInt ∧ m_end'.toInt ≤ 1600) ∧ ((m_token'.toInt = 0 ∧ m_at'.toInt = m_size.toInt ∧ m_end'.toInt = m_size.toInt) ∨ (1 ≤ m_token'.toInt ∧ m_at'.toInt < m_end'.toInt ∧ m_end'.toInt ≤ m_size.toInt)) ∧ m_at.toInt ≤ m_at'.toInt ∧ (0 ≤ m_within'.toInt ∧ m_within'.toInt ≤ 7 ∧ m_within'.toInt = cQZ c_eWhat' m_piled'.toInt) ∧ (0 ≤ m_unitsInRule.toInt ∧ m_unitsInRule.toInt ≤ 30) ∧ ((c_ruleFrom m_rb.toNatClampNeg).toInt = 560 * m_rb.toInt ∧ 0 ≤ m_rb.toInt ∧ m_rb.toInt ≤ 1 ∧ (c_ruleFrom m_rb.toNatClampNeg).toInt ≤ m_codes'.toInt) ∧ (dpZ c_code' (c_ruleFrom m_rb.toNatClampNeg) m_codes'.toInt ≤ m_unitsInRule.toInt ∧ 0 ≤ cPZ c_eWhat' m_piled'.toInt) ∧ (m_piled'.toInt ≤ 1 + m_within'.toInt + cPZ c_eWhat' m_piled'.toInt ∧ 0 ≤ m_piled'.toInt) ∧ (r.toInt = 1 → (cPZ c_eWhat' m_piled'.toInt ≤ dpZ c_code' (c_ruleFrom m_rb.toNatClampNeg) m_codes'.toInt ∧ m_codes'.toInt - (c_ruleFrom m_rb.toNatClampNeg).toInt + dpZ c_code' (c_ruleFrom m_rb.toNatClampNeg) m_codes'.toInt ≤ 16 * m_unitsInRule.toInt + m_within'.toInt)) ∧ (r.toInt = 0 → (cPZ c_eWhat' m_piled'.toInt + 1 ≤ dpZ c_code' (c_ruleFrom m_rb.toNatClampNeg) m_codes'.toInt ∧ m_codes'.toInt - (c_ruleFrom m_rb.toNatClampNeg).toInt + dpZ c_code' (c_ruleFrom m_rb.toNatClampNeg) m_codes'.toInt + m_within'.toInt ≤ 16 * m_unitsInRule.toInt)) ∧ (1 ≤ m_faultKind'.toInt ∨ (m_at.toInt < m_at'.toInt ∧ m_piled'.toInt ≤ m_piled.toInt + 1) ∨ m_piled'.toInt ≤ m_piled.toInt - 1) ∧ SGp c_eWhat' c_eSign' m_piled'.toInt ∧ okcZ c_code' (c_ruleFrom m_rb.toNatClampNeg) m_codes'.toInt ∧ FrC c_code c_code' m_rb)) := by
  refine TtI.of (cc := cX9_behindUnit) (maxL := 2) (ty := .boolean) (own := RX9) (by decide) rfl (Nat.le_of_ble_eq_true rfl) rfl ?_
  intro p e s m below meth c A ls hx hb hr hml hts hown hlk hK hE hP hD hS hA hAB hl
  have hl : lv_has ls 2 [(0, .ref (ad 148))] := hl
  refine st0 (fun H locs hP hS => ?_) hP hS
  have j23 : ∀ (N : Nat) (f : Nat → va_E) (H : Heap) (locs : List Loc) (ls : Array Slot) (v23_l1 : Int32) (v23_p_c_code : Nat → Int32) (v23_p_m_codes : Int32) (v23_p_m_within : Int32) (v23_p_m_piled : Int32), (v23_p_m_piled.toInt + 1 ≤ (N : Int)) → (0 ≤ v23_l1.toInt ∧ v23_l1.toInt ≤ 6) → (0 ≤ m_end.toInt ∧ m_end.toInt ≤ 1600) → ((0 ≤ v23_p_m_within.toInt ∧ v23_p_m_within.toInt ≤ 7 ∧ v23_p_m_within.toInt = cQZ c_eWhat v23_p_m_piled.toInt)) → ((0 ≤ m_unitsInRule.toInt ∧ m_unitsInRule.toInt ≤ 30)) → (((c_ruleFrom m_rb.toNatClampNeg).toInt = 560 * m_rb.toInt ∧ 0 ≤ m_rb.toInt ∧ m_rb.toInt ≤ 1 ∧ (c_ruleFrom m_rb.toNatClampNeg).toInt ≤ v23_p_m_codes.toInt)) → ((dpZ v23_p_c_code (c_ruleFrom m_rb.toNatClampNeg) v23_p_m_codes.toInt ≤ m_unitsInRule.toInt ∧ 0 ≤ cPZ c_eWhat v23_p_m_piled.toInt)) → ((v23_p_m_piled.toInt ≤ 1 + v23_p_m_within.toInt + cPZ c_eWhat v23_p_m_piled.toInt ∧ 0 ≤ v23_p_m_piled.toInt)) → ((cPZ c_eWhat v23_p_m_piled.toInt + 1 ≤ dpZ v23_p_c_code (c_ruleFrom m_rb.toNatClampNeg) v23_p_m_codes.toInt ∧ v23_p_m_codes.toInt - (c_ruleFrom m_rb.toNatClampNeg).toInt + dpZ v23_p_c_code (c_ruleFrom m_rb.toNatClampNeg) v23_p_m_codes.toInt + v23_p_m_within.toInt ≤ 16 * m_unitsInRule.toInt)) → (1 ≤ v23_p_m_piled.toInt) → (v23_p_m_piled.toInt ≤ m_piled.toInt) → (v23_p_m_piled.toInt ≤ 90) → ((v23_l1.toInt = 0 ∨ (1 ≤ m_token.toInt ∧ (v23_l1.toInt = 1 ∨ v23_l1.toInt = 2 ∨ (4 ≤ v23_l1.toInt ∧ v23_l1.toInt ≤ 6 ∧ 37 ≤ (sgF c_text m_size m_at).toInt ∧ (sgF c_text m_size m_at).toInt ≤ 62))))) → (SGp c_eWhat c_eSign v23_p_m_piled.toInt) → (okcZ v23_p_c_code (c_ruleFrom m_rb.toNatClampNeg) v23_p_m_codes.toInt) → (FrC c_code v23_p_c_code m_rb) → (TYm ad cy fr0 c_text m_taped m_size m_faultKind m_faultPlace m_at m_end m_token m_number m_name c_points c_strands c_units c_told c_ruleFrom c_ruleTo v23_p_c_code c_eWhat c_eSign m_bank m_rb v23_p_m_codes v23_p_m_within v23_p_m_piled m_unitsInRule m_askStrand m_askTied m_thoughtClaim m_thoughtNeed m_thoughtAll c_roundOf m_acts m_undone m_laid m_firstMove m_seens m_time m_waysNow m_fitting f) → (va_P D vwCl (wl ad f) H) → (va_D A (wl ad f)) → (va_S A s.heap H locs) → (lv_has ls 2 [(1, .int v23_l1), (0, .ref (ad 148))]) → W p l e (rmO 3 65 0 0) s m ([.ref (ad 148)] : List Value).toArray below meth c H locs 0 0 (MQ below (va_Qi (fun (r : Int32) (g : Nat → va_E) => ((r = 1) ∨ (r = 0)) ∧ (∃ (m_faultKind' : Int32) (m_faultPlace' : Int32) (m_at' : Int32) (m_end' : Int32) (m_token' : Int32) (m_number' : Int32) (m_name' : Int64) (c_code' : Nat → Int32) (c_eWhat' : Nat → Int32) (c_eSign' : Nat → Int32) (m_codes' : Int32) (m_within' : Int32) (m_piled' : Int32), TYm ad cy fr0 c_text m_taped m_size m_faultKind' m_faultPlace' m_at' m_end' m_token' m_number' m_name' c_points c_strands c_units c_told c_ruleFrom c_ruleTo c_code' c_eWhat' c_eSign' m_bank m_rb m_codes' m_within' m_piled' m_unitsInRule m_askStrand m_askTied m_thoughtClaim m_thoughtNeed m_thoughtAll c_roundOf m_acts m_undone m_laid m_firstMove m_seens m_time m_waysNow m_fitting g ∧ (0 ≤ m_end'.toInt ∧ m_end'.toInt ≤ 1600) ∧ ((m_token'.toInt = 0 ∧ m_at'.toInt = m_size.toInt ∧ m_end'.toInt = m_size.toInt) ∨ (1 ≤ m_token'.toInt ∧ m_at'.toInt < m_end'.toInt ∧ m_end'.toInt ≤ m_size.toInt)) ∧ m_at.toInt ≤ m_at'.toInt ∧ (0 ≤ m_within'.toInt ∧ m_within'.toInt ≤ 7 ∧ m_within'.toInt = cQZ c_eWhat' m_piled'.toInt) ∧ (0 ≤ m_unitsInRule.toInt ∧ m_unitsInRule.toInt ≤ 30) ∧ ((c_ruleFrom m_rb.toNatClampNeg).toInt = 560 * m_rb.toInt ∧ 0 ≤ m_rb.toInt ∧ m_rb.toInt ≤ 1 ∧ (c_ruleFrom m_rb.toNatClampNeg).toInt ≤ m_codes'.toInt) ∧ (dpZ c_code' (c_ruleFrom m_rb.toNatClampNeg) m_codes'.toInt ≤ m_unitsInRule.toInt ∧ 0 ≤ cPZ c_eWhat' m_piled'.toInt) ∧ (m_piled'.toInt ≤ 1 + m_within'.toInt + cPZ c_eWhat' m_piled'.toInt ∧ 0 ≤ m_piled'.toInt) ∧ (r.toInt = 1 → (cPZ c_eWhat' m_piled'.toInt ≤ dpZ c_code' (c_ruleFrom m_rb.toNatClampNeg) m_codes'.toInt ∧ m_codes'.toInt - (c_ruleFrom m_rb.toNatClampNeg).toInt + dpZ c_code' (c_ruleFrom m_rb.toNatClampNeg) m_codes'.toInt ≤ 16 * m_unitsInRule.toInt + m_within'.toInt)) ∧ (r.toInt = 0 → (cPZ c_eWhat' m_piled'.toInt + 1 ≤ dpZ c_code' (c_ruleFrom m_rb.toNatClampNeg) m_codes'.toInt ∧ m_codes'.toInt - (c_ruleFrom m_rb.toNatClampNeg).toInt + dpZ c_code' (c_ruleFrom m_rb.toNatClampNeg) m_codes'.toInt + m_within'.toInt ≤ 16 * m_unitsInRule.toInt)) ∧ (1 ≤ m_faultKind'.toInt ∨ (m_at.toInt < m_at'.toInt ∧ m_piled'.toInt ≤ m_piled.toInt + 1) ∨ m_piled'.toInt ≤ m_piled.toInt - 1) ∧ SGp c_eWhat' c_eSign' m_piled'.toInt ∧ okcZ c_code' (c_ruleFrom m_rb.toNatClampNeg) m_codes'.toInt ∧ FrC c_code c_code' m_rb)) (fun g t => PstT D ad g t) A) ([.ref (ad 148)] : List Value).toArray s 0 0 A) (F0 m 23 ls []) := by
    intro N
    induction N with
    | zero => intro f H locs ls v23_l1 v23_p_c_code v23_p_m_codes v23_p_m_within v23_p_m_piled hN hv23_l1 hv23_p_m_end hJ23_0 hJ23_1 hJ23_2 hJ23_3 hJ23_4 hJ23_5 hJ23_6 hJ23_7 hJ23_8 hJ23_9 hSG hOK hFr hT hP hD hS hl; exact absurd hN (by omega)
    | succ N ih23 =>
      intro f H locs ls v23_l1 v23_p_c_code v23_p_m_codes v23_p_m_within v23_p_m_piled hN hv23_l1 hv23_p_m_end hJ23_0 hJ23_1 hJ23_2 hJ23_3 hJ23_4 hJ23_5 hJ23_6 hJ23_7 hJ23_8 hJ23_9 hSG hOK hFr hT hP hD hS hl
      refine lv_aload_n hx hb dX9_behindUnit_23 rfl (lv_at hl 1 rfl) ?_
      obtain ⟨e16, h1, h2, h3, h4, h5, h6, h7, h8, h9, h10, h11, h12, h13, h14, h15⟩ := (show okX9 ad m_taped m_size m_faultKind m_faultPlace m_at m_end m_token m_number m_name m_bank m_rb v23_p_m_codes v23_p_m_within v23_p_m_piled m_unitsInRule m_askStrand m_askTied m_thoughtClaim m_thoughtNeed m_thoughtAll m_acts m_undone m_laid m_firstMove m_seens m_time m_waysNow m_fitting 148 (f 148) from hT.1 148 (by decide))
      refine va_get (D := D) (cl := vwCl) (ci := 9) (v := .ref (ad 166)) (C := RX9) (T := TX9) (N := 64) hx hb hts in_X9_behindUnit_X9 hown hK hP 148 (wl_at (by decide) e16) rfl 26 (by decide) (hts (.fieldLink RX9 67 "EightReasonsModel" "eWhat" "[I") (List.mem_of_getElem? (i := 1) rfl)) (fun _ h9 => h9) rfl dX9_behindUnit_24 ?_
      refine lv_aload_n hx hb dX9_behindUnit_27 rfl (lv_at hl 1 rfl) ?_
      refine va_get (D := D) (cl := vwCl) (ci := 9) (v := .int v23_p_m_piled) (C := RX9) (T := TX9) (N := 64) hx hb hts in_X9_behindUnit_X9 hown hK hP 148 (wl_at (by decide) e16) rfl 33 (by decide) (hts (.fieldLink RX9 285 "EightReasonsModel" "piled" "I") (List.mem_of_getElem? (i := 2) rfl)) (fun _ h9 => h9) rfl dX9_behindUnit_28 ?_
      refine lv_iconst (v := 1) hx hb dX9_behindUnit_31 (by decide) ?_
      have ttl_1 := tl_1
      refine lv_isub hx hb dX9_behindUnit_32 ?_
      refine lv_topi (fun x17 ex17 => ?_)
      have hx17 := r_sub ex17 (by omega) (by omega)
      have ha18 : 0 ≤ x17.toInt ∧ x17.toInt ≤ 89 := by omega
      have e19 : f 166 = _ := (show okIp cy 90 c_eWhat (f 166) from hT.1 166 (by decide))
      refine va_iald hx hb hK hP 166 0 (wl_at (by decide) e19) rfl (vp_in_iff.mpr ⟨by omega, by omega⟩) dX9_behindUnit_33 ?_
      refine lv_topi (fun x20 ex20 => ?_)
      have kx20 := congrArg Int32.toInt ex20
      have hsa := SG_at2 (x := x20) hSG (by assumption) (by omega) (by omega)
      have hel34 := elz (x := x20) (g := c_eWhat) (z := v23_p_m_piled.toInt - 1) (by assumption) (by omega) (by omega)
      refine lv_bipush (v := 6) hx hb dX9_behindUnit_34 (by decide) ?_
      have ttl_6 := tl_6
      refine lv_icmp_gt (tgt := 104) hx hb dX9_behindUnit_36 (by decide) (fun c21 => ?_) (fun c21 => ?_)
      · have kc21 := c_lt c21
        refine lv_iload_n hx hb dX9_behindUnit_104 rfl (lv_at hl 0 rfl) ?_
        have ttl_0 := tl_0
        refine lv_if_le (tgt := 147) hx hb dX9_behindUnit_105 (by decide) (fun c22 => ?_) (fun c22 => ?_)
        · have kc22 := c_le c22
          refine lv_aload_n hx hb dX9_behindUnit_147 rfl (lv_at hl 1 rfl) ?_
          refine lv_dup hx hb dX9_behindUnit_148 rfl ?_
          refine va_get (D := D) (cl := vwCl) (ci := 9) (v := .int v23_p_m_piled) (C := RX9) (T := TX9) (N := 64) hx hb hts in_X9_behindUnit_X9 hown hK hP 148 (wl_at (by decide) e16) rfl 33 (by decide) (hts (.fieldLink RX9 285 "EightReasonsModel" "piled" "I") (List.mem_of_getElem? (i := 2) rfl)) (fun _ h9 => h9) rfl dX9_behindUnit_149 ?_
          refine lv_iconst (v := 1) hx hb dX9_behindUnit_152 (by decide) ?_
          refine lv_isub hx hb dX9_behindUnit_153 ?_
          refine lv_topi (fun x23 ex23 => ?_)
          have hx23 := r_sub ex23 (by omega) (by omega)
          have ha24 : 0 ≤ x23.toInt ∧ x23.toInt ≤ 89 := by omega
          refine va_put (D := D) (cl := vwCl) (ci := 9) (v := .int x23) (ty := tyX9 33) (C := RX9) (T := TX9) (N := 64) hx hb hts in_X9_behindUnit_X9 tyX9 tyX9_ok nmX9 hown hK hP hD hS 148 (wl_at (by decide) e16) rfl 33 (by decide) (hts (.fieldLink RX9 285 "EightReasonsModel" "piled" "I") (List.mem_of_getElem? (i := 2) rfl)) (fun _ h9 => h9) rfl (tyX9_ok 33 (by decide)) rfl rfl (Nat.le_of_ble_eq_true rfl) dX9_behindUnit_154 (fun H locs hP hD hS => ?_)
          obtain ⟨f, hT, hP, hD, e25, hj26⟩ := stU (by decide) (TYm.p148 hT (show OKm ad cy c_text m_taped m_size m_faultKind m_faultPlace m_at m_end m_token m_number m_name c_points c_strands c_units c_told c_ruleFrom c_ruleTo v23_p_c_code c_eWhat c_eSign m_bank m_rb v23_p_m_codes v23_p_m_within x23 m_unitsInRule m_askStrand m_askTied m_thoughtClaim m_thoughtNeed m_thoughtAll c_roundOf m_acts m_undone m_laid m_firstMove m_seens m_time m_waysNow m_fitting 148 _ from (show okX9 ad m_taped m_size m_faultKind m_faultPlace m_at m_end m_token m_number m_name m_bank m_rb v23_p_m_codes v23_p_m_within x23 m_unitsInRule m_askStrand m_askTied m_thoughtClaim m_thoughtNeed m_thoughtAll m_acts m_undone m_laid m_firstMove m_seens m_time m_waysNow m_fitting 148 _ from ⟨rfl, by omega, by omega, by omega, by omega, by omega, by omega, by omega, by omega, by omega, by omega, by omega, by omega, by omega, by omega, by omega⟩))) hP hD
          have e27 := (hj26 166 (by decide)).trans e19
          refine lv_aload_n hx hb dX9_behindUnit_157 rfl (lv_at hl 1 rfl) ?_
          refine va_get (D := D) (cl := vwCl) (ci := 9) (v := .ref (ad 166)) (C := RX9) (T := TX9) (N := 64) hx hb hts in_X9_behindUnit_X9 hown hK hP 148 (wl_at (by decide) e25) rfl 26 (by decide) (hts (.fieldLink RX9 67 "EightReasonsModel" "eWhat" "[I") (List.mem_of_getElem? (i := 1) rfl)) (fun _ h9 => h9) rfl dX9_behindUnit_158 ?_
          refine lv_aload_n hx hb dX9_behindUnit_161 rfl (lv_at hl 1 rfl) ?_
          refine va_get (D := D) (cl := vwCl) (ci := 9) (v := .int x23) (C := RX9) (T := TX9) (N := 64) hx hb hts in_X9_behindUnit_X9 hown hK hP 148 (wl_at (by decide) e25) rfl 33 (by decide) (hts (.fieldLink RX9 285 "EightReasonsModel" "piled" "I") (List.mem_of_getElem? (i := 2) rfl)) (fun _ h9 => h9) rfl dX9_behindUnit_162 ?_
          refine va_iald hx hb hK hP 166 0 (wl_at (by decide) e27) rfl (vp_in_iff.mpr ⟨by omega, by omega⟩) dX9_behindUnit_165 ?_
          refine lv_topi (fun x28 ex28 => ?_)
          have kx28 := congrArg Int32.toInt ex28
          have hel166 := elz (x := x28) (g := c_eWhat) (z := v23_p_m_piled.toInt - 1) (by assumption) (by omega) (by omega)
          have hcq := c_pop2 (g := c_eWhat) (x := x28) (p := v23_p_m_piled) (q := x23) (by assumption) (by omega) (by omega)
          have hq0 := cQZ_pos c_eWhat x23.toInt
          have hSG := SG_sub (w := x23.toInt) hSG (by omega)
          have hp0 := cPZ_pos c_eWhat x23.toInt
          refine lv_bipush (v := 7) hx hb dX9_behindUnit_166 (by decide) ?_
          have ttl_7 := tl_7
          refine lv_icmp_ne (tgt := 191) hx hb dX9_behindUnit_168 (by decide) (fun c29 => ?_) (fun c29 => ?_)
          · have kc29 := c_ne c29
            refine lv_iconst (v := 0) hx hb dX9_behindUnit_191 (by decide) ?_
            exact tI hx hb hr hlk rfl hP hS ⟨(Or.inr rfl), ⟨m_faultKind, m_faultPlace, m_at, m_end, m_token, m_number, m_name, v23_p_c_code, c_eWhat, c_eSign, v23_p_m_codes, v23_p_m_within, x23, hT, by omega, by omega, by omega, by omega, by omega, by omega, by omega, by omega, by omega, by omega, by omega, hSG, hOK, hFr⟩⟩ dX9_behindUnit_192
          · have kc29 := c_eq c29
            refine lv_aload_n hx hb dX9_behindUnit_171 rfl (lv_at hl 1 rfl) ?_
            refine lv_dup hx hb dX9_behindUnit_172 rfl ?_
            refine va_get (D := D) (cl := vwCl) (ci := 9) (v := .int v23_p_m_within) (C := RX9) (T := TX9) (N := 64) hx hb hts in_X9_behindUnit_X9 hown hK hP 148 (wl_at (by decide) e25) rfl 32 (by decide) (hts (.fieldLink RX9 288 "EightReasonsModel" "within" "I") (List.mem_of_getElem? (i := 3) rfl)) (fun _ h9 => h9) rfl dX9_behindUnit_173 ?_
            have ha30 : 0 ≤ v23_p_m_within.toInt ∧ v23_p_m_within.toInt ≤ 7 := by omega
            refine lv_iconst (v := 1) hx hb dX9_behindUnit_176 (by decide) ?_
            refine lv_isub hx hb dX9_behindUnit_177 ?_
            refine lv_topi (fun x31 ex31 => ?_)
            have hx31 := r_sub ex31 (by omega) (by omega)
            refine va_put (D := D) (cl := vwCl) (ci := 9) (v := .int x31) (ty := tyX9 32) (C := RX9) (T := TX9) (N := 64) hx hb hts in_X9_behindUnit_X9 tyX9 tyX9_ok nmX9 hown hK hP hD hS 148 (wl_at (by decide) e25) rfl 32 (by decide) (hts (.fieldLink RX9 288 "EightReasonsModel" "within" "I") (List.mem_of_getElem? (i := 3) rfl)) (fun _ h9 => h9) rfl (tyX9_ok 32 (by decide)) rfl rfl (Nat.le_of_ble_eq_true rfl) dX9_behindUnit_178 (fun H locs hP hD hS => ?_)
            obtain ⟨f, hT, hP, hD, e32, hj33⟩ := stU (by decide) (TYm.p148 hT (show OKm ad cy c_text m_taped m_size m_faultKind m_faultPlace m_at m_end m_token m_number m_name c_points c_strands c_units c_told c_ruleFrom c_ruleTo v23_p_c_code c_eWhat c_eSign m_bank m_rb v23_p_m_codes x31 x23 m_unitsInRule m_askStrand m_askTied m_thoughtClaim m_thoughtNeed m_thoughtAll c_roundOf m_acts m_undone m_laid m_firstMove m_seens m_time m_waysNow m_fitting 148 _ from (show okX9 ad m_taped m_size m_faultKind m_faultPlace m_at m_end m_token m_number m_name m_bank m_rb v23_p_m_codes x31 x23 m_unitsInRule m_askStrand m_askTied m_thoughtClaim m_thoughtNeed m_thoughtAll m_acts m_undone m_laid m_firstMove m_seens m_time m_waysNow m_fitting 148 _ from ⟨rfl, by omega, by omega, by omega, by omega, by omega, by omega, by omega, by omega, by omega, by omega, by omega, by omega, by omega, by omega, by omega⟩))) hP hD
            have e34 := (hj33 166 (by decide)).trans e27
            refine lv_aload_n hx hb dX9_behindUnit_181 rfl (lv_at hl 1 rfl) ?_
            refine lv_aload_n hx hb dX9_behindUnit_182 rfl (lv_at hl 1 rfl) ?_
            refine lv_bipush (v := 41) hx hb dX9_behindUnit_183 (by decide) ?_
            have ttl_41 := tl_41
            refine tVI (As := [.int 41]) (rest := [.ref (ad 148)]) (i := 148) ⟨hx, hb, hml, hown, hts⟩ hK hE hP hD hS hA hAB (s_X9_isSignHere_0 l B0 adK adV D cy ad fr0 c_text m_taped m_size m_faultKind m_faultPlace m_at m_end m_token m_number m_name c_points c_strands c_units c_told c_ruleFrom c_ruleTo v23_p_c_code c_eWhat c_eSign m_bank m_rb v23_p_m_codes x31 x23 m_unitsInRule m_askStrand m_askTied m_thoughtClaim m_thoughtNeed m_thoughtAll c_roundOf m_acts m_undone m_laid m_firstMove m_seens m_time m_waysNow m_fitting f hT (41 : Int32) (by omega) _) (cwV 1 hts gX9_behindUnit_X9_isSignHere rfl rfl rfl (by decide +kernel) ⟨Nat.le_of_ble_eq_true rfl, Nat.le_of_ble_eq_true rfl⟩) (by decide) 9 e32 rfl rfl hl.1 rfl (Nat.le_of_ble_eq_true rfl) dX9_behindUnit_185 ⟨Nat.le_of_ble_eq_true rfl, Nat.le_of_ble_eq_true rfl⟩ (fun r g H locs hw hP hD hS => ?_)
            obtain ⟨hrs, rfl⟩ := hw
            obtain ⟨x35, rfl⟩ : ∃ q, q = r := ⟨_, rfl⟩
            rcases hrs with ⟨rfl, h36, h37⟩ | rfl
            · refine tVV (As := [.int 1]) (rest := []) (i := 148) ⟨hx, hb, hml, hown, hts⟩ hK hE hP hD hS hA hAB (s_X9_must_0 l B0 adK adV D cy ad fr0 c_text m_taped m_size m_faultKind m_faultPlace m_at m_end m_token m_number m_name c_points c_strands c_units c_told c_ruleFrom c_ruleTo v23_p_c_code c_eWhat c_eSign m_bank m_rb v23_p_m_codes x31 x23 m_unitsInRule m_askStrand m_askTied m_thoughtClaim m_thoughtNeed m_thoughtAll c_roundOf m_acts m_undone m_laid m_firstMove m_seens m_time m_waysNow m_fitting f hT (1 : Int32) (by omega) (by omega) (by omega) _) (cwV 1 hts gX9_behindUnit_X9_must rfl rfl rfl (by decide +kernel) ⟨Nat.le_of_ble_eq_true rfl, Nat.le_of_ble_eq_true rfl⟩) (by decide) 9 e32 rfl rfl hl.1 rfl (Nat.le_of_ble_eq_true rfl) dX9_behindUnit_188 ⟨Nat.le_of_ble_eq_true rfl, Nat.le_of_ble_eq_true rfl⟩ (fun f H locs hw hP hD hS => ?_)
              obtain ⟨hrs, x38, x39, x40, x41, x42, x43, y44, hT, h45, h46, h47⟩ := hw
              refine lv_iconst (v := 0) hx hb dX9_behindUnit_191 (by decide) ?_
              exact tI hx hb hr hlk rfl hP hS ⟨(Or.inr rfl), ⟨x38, x39, x40, x41, x42, x43, y44, v23_p_c_code, c_eWhat, c_eSign, v23_p_m_codes, x31, x23, hT, by omega, by omega, by omega, by omega, by omega, by omega, by omega, by omega, by omega, by omega, by omega, hSG, hOK, hFr⟩⟩ dX9_behindUnit_192
            · refine tVV (As := [.int 0]) (rest := []) (i := 148) ⟨hx, hb, hml, hown, hts⟩ hK hE hP hD hS hA hAB (s_X9_must_0 l B0 adK adV D cy ad fr0 c_text m_taped m_size m_faultKind m_faultPlace m_at m_end m_token m_number m_name c_points c_strands c_units c_told c_ruleFrom c_ruleTo v23_p_c_code c_eWhat c_eSign m_bank m_rb v23_p_m_codes x31 x23 m_unitsInRule m_askStrand m_askTied m_thoughtClaim m_thoughtNeed m_thoughtAll c_roundOf m_acts m_undone m_laid m_firstMove m_seens m_time m_waysNow m_fitting f hT (0 : Int32) (by omega) (by omega) (by omega) _) (cwV 1 hts gX9_behindUnit_X9_must rfl rfl rfl (by decide +kernel) ⟨Nat.le_of_ble_eq_true rfl, Nat.le_of_ble_eq_true rfl⟩) (by decide) 9 e32 rfl rfl hl.1 rfl (Nat.le_of_ble_eq_true rfl) dX9_behindUnit_188 ⟨Nat.le_of_ble_eq_true rfl, Nat.le_of_ble_eq_true rfl⟩ (fun f H locs hw hP hD hS => ?_)
              obtain ⟨hrs, x48, x49, x50, x51, x52, x53, y54, hT, h55, h56, h57⟩ := hw
              refine lv_iconst (v := 0) hx hb dX9_behindUnit_191 (by decide) ?_
              exact tI hx hb hr hlk rfl hP hS ⟨(Or.inr rfl), ⟨x48, x49, x50, x51, x52, x53, y54, v23_p_c_code, c_eWhat, c_eSign, v23_p_m_codes, x31, x23, hT, by omega, by omega, by omega, by omega, by omega, by omega, by omega, by omega, by omega, by omega, by omega, hSG, hOK, hFr⟩⟩ dX9_behindUnit_192
        · have kc22 := c_nle c22
          refine lv_aload_n hx hb dX9_behindUnit_108 rfl (lv_at hl 1 rfl) ?_
          refine lv_iload_n hx hb dX9_behindUnit_109 rfl (lv_at hl 0 rfl) ?_
          refine lv_iload_n hx hb dX9_behindUnit_110 rfl (lv_at hl 0 rfl) ?_
          refine lv_iconst (v := 2) hx hb dX9_behindUnit_111 (by decide) ?_
          have ttl_2 := tl_2
          refine lv_icmp_ne (tgt := 120) hx hb dX9_behindUnit_112 (by decide) (fun c58 => ?_) (fun c58 => ?_)
          · have kc58 := c_ne c58
            refine lv_iload_n hx hb dX9_behindUnit_120 rfl (lv_at hl 0 rfl) ?_
            refine lv_iconst (v := 1) hx hb dX9_behindUnit_121 (by decide) ?_
            refine lv_icmp_ne (tgt := 130) hx hb dX9_behindUnit_122 (by decide) (fun c59 => ?_) (fun c59 => ?_)
            · have kc59 := c_ne c59
              refine lv_aload_n hx hb dX9_behindUnit_130 rfl (lv_at hl 1 rfl) ?_
              refine lv_aload_n hx hb dX9_behindUnit_131 rfl (lv_at hl 1 rfl) ?_
              refine va_get (D := D) (cl := vwCl) (ci := 9) (v := .int m_at) (C := RX9) (T := TX9) (N := 64) hx hb hts in_X9_behindUnit_X9 hown hK hP 148 (wl_at (by decide) e16) rfl 6 (by decide) (hts (.fieldLink RX9 174 "EightReasonsModel" "at" "I") (List.mem_of_getElem? (i := 5) rfl)) (fun _ h9 => h9) rfl dX9_behindUnit_132 ?_
              refine tVI (As := [.int m_at]) (rest := [.int v23_l1, .ref (ad 148)]) (i := 148) ⟨hx, hb, hml, hown, hts⟩ hK hE hP hD hS hA hAB (s_X9_sign_0 l B0 adK adV D cy ad fr0 c_text m_taped m_size m_faultKind m_faultPlace m_at m_end m_token m_number m_name c_points c_strands c_units c_told c_ruleFrom c_ruleTo v23_p_c_code c_eWhat c_eSign m_bank m_rb v23_p_m_codes v23_p_m_within v23_p_m_piled m_unitsInRule m_askStrand m_askTied m_thoughtClaim m_thoughtNeed m_thoughtAll c_roundOf m_acts m_undone m_laid m_firstMove m_seens m_time m_waysNow m_fitting f hT m_at (by omega) _) (cwV 1 hts gX9_behindUnit_X9_sign rfl rfl rfl (by decide +kernel) ⟨Nat.le_of_ble_eq_true rfl, Nat.le_of_ble_eq_true rfl⟩) (by decide) 9 e16 rfl rfl hl.1 rfl (Nat.le_of_ble_eq_true rfl) dX9_behindUnit_135 ⟨Nat.le_of_ble_eq_true rfl, Nat.le_of_ble_eq_true rfl⟩ (fun r g H locs hw hP hD hS => ?_)
              obtain ⟨hrs, rfl⟩ := hw
              obtain ⟨x60, rfl⟩ : ∃ q, q = r := ⟨_, rfl⟩
              rcases hrs with ⟨h61, h62, h63⟩ | ⟨rfl, h64⟩
              · refine tVV (As := [.int v23_l1, .int x60]) (rest := []) (i := 148) ⟨hx, hb, hml, hown, hts⟩ hK hE hP hD hS hA hAB (s_X9_pushE_0 l B0 adK adV D cy ad fr0 c_text m_taped m_size m_faultKind m_faultPlace m_at m_end m_token m_number m_name c_points c_strands c_units c_told c_ruleFrom c_ruleTo v23_p_c_code c_eWhat c_eSign m_bank m_rb v23_p_m_codes v23_p_m_within v23_p_m_piled m_unitsInRule m_askStrand m_askTied m_thoughtClaim m_thoughtNeed m_thoughtAll c_roundOf m_acts m_undone m_laid m_firstMove m_seens m_time m_waysNow m_fitting f hT v23_l1 (by omega) x60 (by omega) (by omega) _) (cwV 2 hts gX9_behindUnit_X9_pushE rfl rfl rfl (by decide +kernel) ⟨Nat.le_of_ble_eq_true rfl, Nat.le_of_ble_eq_true rfl⟩) (by decide) 9 e16 rfl rfl hl.1 rfl (Nat.le_of_ble_eq_true rfl) dX9_behindUnit_138 ⟨Nat.le_of_ble_eq_true rfl, Nat.le_of_ble_eq_true rfl⟩ (fun f H locs hw hP hD hS => ?_)
                obtain ⟨hrs, y65, y66, x67, hT, h68, h69, hew, hes⟩ := hw
                have hpu := push_1 (g := c_eWhat) (g' := y65) (p := v23_p_m_piled) (z := x67.toInt) hew (by omega) (by omega) (by omega)
                have hSG := SG_push (g := c_eWhat) (s := c_eSign) (p := v23_p_m_piled) (z := x67.toInt) hSG hew hes (by omega) (by omega) (by omega) (by omega) (by omega) (by omega) (by omega)
                refine lv_aload_n hx hb dX9_behindUnit_141 rfl (lv_at hl 1 rfl) ?_
                obtain ⟨e85, h70, h71, h72, h73, h74, h75, h76, h77, h78, h79, h80, h81, h82, h83, h84⟩ := (show okX9 ad m_taped m_size m_faultKind m_faultPlace m_at m_end m_token m_number m_name m_bank m_rb v23_p_m_codes v23_p_m_within x67 m_unitsInRule m_askStrand m_askTied m_thoughtClaim m_thoughtNeed m_thoughtAll m_acts m_undone m_laid m_firstMove m_seens m_time m_waysNow m_fitting 148 (f 148) from hT.1 148 (by decide))
                refine tVV (As := []) (rest := []) (i := 148) ⟨hx, hb, hml, hown, hts⟩ hK hE hP hD hS hA hAB (s_X9_goOn_0 l B0 adK adV D cy ad fr0 c_text m_taped m_size m_faultKind m_faultPlace m_at m_end m_token m_number m_name c_points c_strands c_units c_told c_ruleFrom c_ruleTo v23_p_c_code y65 y66 m_bank m_rb v23_p_m_codes v23_p_m_within x67 m_unitsInRule m_askStrand m_askTied m_thoughtClaim m_thoughtNeed m_thoughtAll c_roundOf m_acts m_undone m_laid m_firstMove m_seens m_time m_waysNow m_fitting f hT (by omega) (by omega) _) (cwV 0 hts gX9_behindUnit_X9_goOn rfl rfl rfl (by decide +kernel) ⟨Nat.le_of_ble_eq_true rfl, Nat.le_of_ble_eq_true rfl⟩) (by decide) 9 e85 rfl rfl hl.1 rfl (Nat.le_of_ble_eq_true rfl) dX9_behindUnit_142 ⟨Nat.le_of_ble_eq_true rfl, Nat.le_of_ble_eq_true rfl⟩ (fun f H locs hw hP hD hS => ?_)
                obtain ⟨hrs, x86, x87, x88, x89, y90, hT, h91, h92, h93⟩ := hw
                refine lv_iconst (v := 1) hx hb dX9_behindUnit_145 (by decide) ?_
                exact tI hx hb hr hlk rfl hP hS ⟨(Or.inl rfl), ⟨m_faultKind, m_faultPlace, x86, x87, x88, x89, y90, v23_p_c_code, y65, y66, v23_p_m_codes, v23_p_m_within, x67, hT, by omega, by omega, by omega, by omega, by omega, by omega, by omega, by omega, by omega, by omega, by omega, hSG, hOK, hFr⟩⟩ dX9_behindUnit_146
              · refine tVV (As := [.int v23_l1, .int 0]) (rest := []) (i := 148) ⟨hx, hb, hml, hown, hts⟩ hK hE hP hD hS hA hAB (s_X9_pushE_0 l B0 adK adV D cy ad fr0 c_text m_taped m_size m_faultKind m_faultPlace m_at m_end m_token m_number m_name c_points c_strands c_units c_told c_ruleFrom c_ruleTo v23_p_c_code c_eWhat c_eSign m_bank m_rb v23_p_m_codes v23_p_m_within v23_p_m_piled m_unitsInRule m_askStrand m_askTied m_thoughtClaim m_thoughtNeed m_thoughtAll c_roundOf m_acts m_undone m_laid m_firstMove m_seens m_time m_waysNow m_fitting f hT v23_l1 (by omega) (0 : Int32) (by omega) (by omega) _) (cwV 2 hts gX9_behindUnit_X9_pushE rfl rfl rfl (by decide +kernel) ⟨Nat.le_of_ble_eq_true rfl, Nat.le_of_ble_eq_true rfl⟩) (by decide) 9 e16 rfl rfl hl.1 rfl (Nat.le_of_ble_eq_true rfl) dX9_behindUnit_138 ⟨Nat.le_of_ble_eq_true rfl, Nat.le_of_ble_eq_true rfl⟩ (fun f H locs hw hP hD hS => ?_)
                obtain ⟨hrs, y94, y95, x96, hT, h97, h98, hew, hes⟩ := hw
                have hpu := push_1 (g := c_eWhat) (g' := y94) (p := v23_p_m_piled) (z := x96.toInt) hew (by omega) (by omega) (by omega)
                have hSG := SG_push (g := c_eWhat) (s := c_eSign) (p := v23_p_m_piled) (z := x96.toInt) hSG hew hes (by omega) (by omega) (by omega) (by omega) (by omega) (by omega) (by omega)
                refine lv_aload_n hx hb dX9_behindUnit_141 rfl (lv_at hl 1 rfl) ?_
                obtain ⟨e114, h99, h100, h101, h102, h103, h104, h105, h106, h107, h108, h109, h110, h111, h112, h113⟩ := (show okX9 ad m_taped m_size m_faultKind m_faultPlace m_at m_end m_token m_number m_name m_bank m_rb v23_p_m_codes v23_p_m_within x96 m_unitsInRule m_askStrand m_askTied m_thoughtClaim m_thoughtNeed m_thoughtAll m_acts m_undone m_laid m_firstMove m_seens m_time m_waysNow m_fitting 148 (f 148) from hT.1 148 (by decide))
                refine tVV (As := []) (rest := []) (i := 148) ⟨hx, hb, hml, hown, hts⟩ hK hE hP hD hS hA hAB (s_X9_goOn_0 l B0 adK adV D cy ad fr0 c_text m_taped m_size m_faultKind m_faultPlace m_at m_end m_token m_number m_name c_points c_strands c_units c_told c_ruleFrom c_ruleTo v23_p_c_code y94 y95 m_bank m_rb v23_p_m_codes v23_p_m_within x96 m_unitsInRule m_askStrand m_askTied m_thoughtClaim m_thoughtNeed m_thoughtAll c_roundOf m_acts m_undone m_laid m_firstMove m_seens m_time m_waysNow m_fitting f hT (by omega) (by omega) _) (cwV 0 hts gX9_behindUnit_X9_goOn rfl rfl rfl (by decide +kernel) ⟨Nat.le_of_ble_eq_true rfl, Nat.le_of_ble_eq_true rfl⟩) (by decide) 9 e114 rfl rfl hl.1 rfl (Nat.le_of_ble_eq_true rfl) dX9_behindUnit_142 ⟨Nat.le_of_ble_eq_true rfl, Nat.le_of_ble_eq_true rfl⟩ (fun f H locs hw hP hD hS => ?_)
                obtain ⟨hrs, x115, x116, x117, x118, y119, hT, h120, h121, h122⟩ := hw
                refine lv_iconst (v := 1) hx hb dX9_behindUnit_145 (by decide) ?_
                exact tI hx hb hr hlk rfl hP hS ⟨(Or.inl rfl), ⟨m_faultKind, m_faultPlace, x115, x116, x117, x118, y119, v23_p_c_code, y94, y95, v23_p_m_codes, v23_p_m_within, x96, hT, by omega, by omega, by omega, by omega, by omega, by omega, by omega, by omega, by omega, by omega, by omega, hSG, hOK, hFr⟩⟩ dX9_behindUnit_146
            · have kc59 := c_eq c59
              refine lv_bipush (v := 124) hx hb dX9_behindUnit_125 (by decide) ?_
              refine lv_goto (tgt := 138) hx hb dX9_behindUnit_127 (by decide) ?_
              have ttl_124 := tl_124
              refine tVV (As := [.int v23_l1, .int 124]) (rest := []) (i := 148) ⟨hx, hb, hml, hown, hts⟩ hK hE hP hD hS hA hAB (s_X9_pushE_0 l B0 adK adV D cy ad fr0 c_text m_taped m_size m_faultKind m_faultPlace m_at m_end m_token m_number m_name c_points c_strands c_units c_told c_ruleFrom c_ruleTo v23_p_c_code c_eWhat c_eSign m_bank m_rb v23_p_m_codes v23_p_m_within v23_p_m_piled m_unitsInRule m_askStrand m_askTied m_thoughtClaim m_thoughtNeed m_thoughtAll c_roundOf m_acts m_undone m_laid m_firstMove m_seens m_time m_waysNow m_fitting f hT v23_l1 (by omega) (124 : Int32) (by omega) (by omega) _) (cwV 2 hts gX9_behindUnit_X9_pushE rfl rfl rfl (by decide +kernel) ⟨Nat.le_of_ble_eq_true rfl, Nat.le_of_ble_eq_true rfl⟩) (by decide) 9 e16 rfl rfl hl.1 rfl (Nat.le_of_ble_eq_true rfl) dX9_behindUnit_138 ⟨Nat.le_of_ble_eq_true rfl, Nat.le_of_ble_eq_true rfl⟩ (fun f H locs hw hP hD hS => ?_)
              obtain ⟨hrs, y123, y124, x125, hT, h126, h127, hew, hes⟩ := hw
              have hpu := push_1 (g := c_eWhat) (g' := y123) (p := v23_p_m_piled) (z := x125.toInt) hew (by omega) (by omega) (by omega)
              have hSG := SG_push (g := c_eWhat) (s := c_eSign) (p := v23_p_m_piled) (z := x125.toInt) hSG hew hes (by omega) (by omega) (by omega) (by omega) (by omega) (by omega) (by omega)
              refine lv_aload_n hx hb dX9_behindUnit_141 rfl (lv_at hl 1 rfl) ?_
              obtain ⟨e143, h128, h129, h130, h131, h132, h133, h134, h135, h136, h137, h138, h139, h140, h141, h142⟩ := (show okX9 ad m_taped m_size m_faultKind m_faultPlace m_at m_end m_token m_number m_name m_bank m_rb v23_p_m_codes v23_p_m_within x125 m_unitsInRule m_askStrand m_askTied m_thoughtClaim m_thoughtNeed m_thoughtAll m_acts m_undone m_laid m_firstMove m_seens m_time m_waysNow m_fitting 148 (f 148) from hT.1 148 (by decide))
              refine tVV (As := []) (rest := []) (i := 148) ⟨hx, hb, hml, hown, hts⟩ hK hE hP hD hS hA hAB (s_X9_goOn_0 l B0 adK adV D cy ad fr0 c_text m_taped m_size m_faultKind m_faultPlace m_at m_end m_token m_number m_name c_points c_strands c_units c_told c_ruleFrom c_ruleTo v23_p_c_code y123 y124 m_bank m_rb v23_p_m_codes v23_p_m_within x125 m_unitsInRule m_askStrand m_askTied m_thoughtClaim m_thoughtNeed m_thoughtAll c_roundOf m_acts m_undone m_laid m_firstMove m_seens m_time m_waysNow m_fitting f hT (by omega) (by omega) _) (cwV 0 hts gX9_behindUnit_X9_goOn rfl rfl rfl (by decide +kernel) ⟨Nat.le_of_ble_eq_true rfl, Nat.le_of_ble_eq_true rfl⟩) (by decide) 9 e143 rfl rfl hl.1 rfl (Nat.le_of_ble_eq_true rfl) dX9_behindUnit_142 ⟨Nat.le_of_ble_eq_true rfl, Nat.le_of_ble_eq_true rfl⟩ (fun f H locs hw hP hD hS => ?_)
              obtain ⟨hrs, x144, x145, x146, x147, y148, hT, h149, h150, h151⟩ := hw
              refine lv_iconst (v := 1) hx hb dX9_behindUnit_145 (by decide) ?_
              exact tI hx hb hr hlk rfl hP hS ⟨(Or.inl rfl), ⟨m_faultKind, m_faultPlace, x144, x145, x146, x147, y148, v23_p_c_code, y123, y124, v23_p_m_codes, v23_p_m_within, x125, hT, by omega, by omega, by omega, by omega, by omega, by omega, by omega, by omega, by omega, by omega, by omega, hSG, hOK, hFr⟩⟩ dX9_behindUnit_146
          · have kc58 := c_eq c58
            refine lv_bipush (v := 38) hx hb dX9_behindUnit_115 (by decide) ?_
            refine lv_goto (tgt := 138) hx hb dX9_behindUnit_117 (by decide) ?_
            have ttl_38 := tl_38
            refine tVV (As := [.int v23_l1, .int 38]) (rest := []) (i := 148) ⟨hx, hb, hml, hown, hts⟩ hK hE hP hD hS hA hAB (s_X9_pushE_0 l B0 adK adV D cy ad fr0 c_text m_taped m_size m_faultKind m_faultPlace m_at m_end m_token m_number m_name c_points c_strands c_units c_told c_ruleFrom c_ruleTo v23_p_c_code c_eWhat c_eSign m_bank m_rb v23_p_m_codes v23_p_m_within v23_p_m_piled m_unitsInRule m_askStrand m_askTied m_thoughtClaim m_thoughtNeed m_thoughtAll c_roundOf m_acts m_undone m_laid m_firstMove m_seens m_time m_waysNow m_fitting f hT v23_l1 (by omega) (38 : Int32) (by omega) (by omega) _) (cwV 2 hts gX9_behindUnit_X9_pushE rfl rfl rfl (by decide +kernel) ⟨Nat.le_of_ble_eq_true rfl, Nat.le_of_ble_eq_true rfl⟩) (by decide) 9 e16 rfl rfl hl.1 rfl (Nat.le_of_ble_eq_true rfl) dX9_behindUnit_138 ⟨Nat.le_of_ble_eq_true rfl, Nat.le_of_ble_eq_true rfl⟩ (fun f H locs hw hP hD hS => ?_)
            obtain ⟨hrs, y152, y153, x154, hT, h155, h156, hew, hes⟩ := hw
            have hpu := push_1 (g := c_eWhat) (g' := y152) (p := v23_p_m_piled) (z := x154.toInt) hew (by omega) (by omega) (by omega)
            have hSG := SG_push (g := c_eWhat) (s := c_eSign) (p := v23_p_m_piled) (z := x154.toInt) hSG hew hes (by omega) (by omega) (by omega) (by omega) (by omega) (by omega) (by omega)
            refine lv_aload_n hx hb dX9_behindUnit_141 rfl (lv_at hl 1 rfl) ?_
            obtain ⟨e172, h157, h158, h159, h160, h161, h162, h163, h164, h165, h166, h167, h168, h169, h170, h171⟩ := (show okX9 ad m_taped m_size m_faultKind m_faultPlace m_at m_end m_token m_number m_name m_bank m_rb v23_p_m_codes v23_p_m_within x154 m_unitsInRule m_askStrand m_askTied m_thoughtClaim m_thoughtNeed m_thoughtAll m_acts m_undone m_laid m_firstMove m_seens m_time m_waysNow m_fitting 148 (f 148) from hT.1 148 (by decide))
            refine tVV (As := []) (rest := []) (i := 148) ⟨hx, hb, hml, hown, hts⟩ hK hE hP hD hS hA hAB (s_X9_goOn_0 l B0 adK adV D cy ad fr0 c_text m_taped m_size m_faultKind m_faultPlace m_at m_end m_token m_number m_name c_points c_strands c_units c_told c_ruleFrom c_ruleTo v23_p_c_code y152 y153 m_bank m_rb v23_p_m_codes v23_p_m_within x154 m_unitsInRule m_askStrand m_askTied m_thoughtClaim m_thoughtNeed m_thoughtAll c_roundOf m_acts m_undone m_laid m_firstMove m_seens m_time m_waysNow m_fitting f hT (by omega) (by omega) _) (cwV 0 hts gX9_behindUnit_X9_goOn rfl rfl rfl (by decide +kernel) ⟨Nat.le_of_ble_eq_true rfl, Nat.le_of_ble_eq_true rfl⟩) (by decide) 9 e172 rfl rfl hl.1 rfl (Nat.le_of_ble_eq_true rfl) dX9_behindUnit_142 ⟨Nat.le_of_ble_eq_true rfl, Nat.le_of_ble_eq_true rfl⟩ (fun f H locs hw hP hD hS => ?_)
            obtain ⟨hrs, x173, x174, x175, x176, y177, hT, h178, h179, h180⟩ := hw
            refine lv_iconst (v := 1) hx hb dX9_behindUnit_145 (by decide) ?_
            exact tI hx hb hr hlk rfl hP hS ⟨(Or.inl rfl), ⟨m_faultKind, m_faultPlace, x173, x174, x175, x176, y177, v23_p_c_code, y152, y153, v23_p_m_codes, v23_p_m_within, x154, hT, by omega, by omega, by omega, by omega, by omega, by omega, by omega, by omega, by omega, by omega, by omega, hSG, hOK, hFr⟩⟩ dX9_behindUnit_146
      · have kc21 := c_nlt c21
        refine lv_aload_n hx hb dX9_behindUnit_39 rfl (lv_at hl 1 rfl) ?_
        refine va_get (D := D) (cl := vwCl) (ci := 9) (v := .ref (ad 166)) (C := RX9) (T := TX9) (N := 64) hx hb hts in_X9_behindUnit_X9 hown hK hP 148 (wl_at (by decide) e16) rfl 26 (by decide) (hts (.fieldLink RX9 67 "EightReasonsModel" "eWhat" "[I") (List.mem_of_getElem? (i := 1) rfl)) (fun _ h9 => h9) rfl dX9_behindUnit_40 ?_
        refine lv_aload_n hx hb dX9_behindUnit_43 rfl (lv_at hl 1 rfl) ?_
        refine va_get (D := D) (cl := vwCl) (ci := 9) (v := .int v23_p_m_piled) (C := RX9) (T := TX9) (N := 64) hx hb hts in_X9_behindUnit_X9 hown hK hP 148 (wl_at (by decide) e16) rfl 33 (by decide) (hts (.fieldLink RX9 285 "EightReasonsModel" "piled" "I") (List.mem_of_getElem? (i := 2) rfl)) (fun _ h9 => h9) rfl dX9_behindUnit_44 ?_
        refine lv_iconst (v := 1) hx hb dX9_behindUnit_47 (by decide) ?_
        refine lv_isub hx hb dX9_behindUnit_48 ?_
        refine lv_topi (fun x181 ex181 => ?_)
        have hx181 := r_sub ex181 (by omega) (by omega)
        have ha182 : 0 ≤ x181.toInt ∧ x181.toInt ≤ 89 := by omega
        refine va_iald hx hb hK hP 166 0 (wl_at (by decide) e19) rfl (vp_in_iff.mpr ⟨by omega, by omega⟩) dX9_behindUnit_49 ?_
        refine lv_topi (fun x183 ex183 => ?_)
        have kx183 := congrArg Int32.toInt ex183
        have hel50 := elz (x := x183) (g := c_eWhat) (z := v23_p_m_piled.toInt - 1) (by assumption) (by omega) (by omega)
        refine lv_iload_n hx hb dX9_behindUnit_50 rfl (lv_at hl 0 rfl) ?_
        refine lv_icmp_lt (tgt := 104) hx hb dX9_behindUnit_51 (by decide) (fun c184 => ?_) (fun c184 => ?_)
        · have kc184 := c_lt c184
          refine lv_iload_n hx hb dX9_behindUnit_104 rfl (lv_at hl 0 rfl) ?_
          have ttl_0 := tl_0
          refine lv_if_le (tgt := 147) hx hb dX9_behindUnit_105 (by decide) (fun c185 => ?_) (fun c185 => ?_)
          · have kc185 := c_le c185
            refine lv_aload_n hx hb dX9_behindUnit_147 rfl (lv_at hl 1 rfl) ?_
            refine lv_dup hx hb dX9_behindUnit_148 rfl ?_
            refine va_get (D := D) (cl := vwCl) (ci := 9) (v := .int v23_p_m_piled) (C := RX9) (T := TX9) (N := 64) hx hb hts in_X9_behindUnit_X9 hown hK hP 148 (wl_at (by decide) e16) rfl 33 (by decide) (hts (.fieldLink RX9 285 "EightReasonsModel" "piled" "I") (List.mem_of_getElem? (i := 2) rfl)) (fun _ h9 => h9) rfl dX9_behindUnit_149 ?_
            refine lv_iconst (v := 1) hx hb dX9_behindUnit_152 (by decide) ?_
            refine lv_isub hx hb dX9_behindUnit_153 ?_
            refine lv_topi (fun x186 ex186 => ?_)
            have hx186 := r_sub ex186 (by omega) (by omega)
            have ha187 : 0 ≤ x186.toInt ∧ x186.toInt ≤ 89 := by omega
            refine va_put (D := D) (cl := vwCl) (ci := 9) (v := .int x186) (ty := tyX9 33) (C := RX9) (T := TX9) (N := 64) hx hb hts in_X9_behindUnit_X9 tyX9 tyX9_ok nmX9 hown hK hP hD hS 148 (wl_at (by decide) e16) rfl 33 (by decide) (hts (.fieldLink RX9 285 "EightReasonsModel" "piled" "I") (List.mem_of_getElem? (i := 2) rfl)) (fun _ h9 => h9) rfl (tyX9_ok 33 (by decide)) rfl rfl (Nat.le_of_ble_eq_true rfl) dX9_behindUnit_154 (fun H locs hP hD hS => ?_)
            obtain ⟨f, hT, hP, hD, e188, hj189⟩ := stU (by decide) (TYm.p148 hT (show OKm ad cy c_text m_taped m_size m_faultKind m_faultPlace m_at m_end m_token m_number m_name c_points c_strands c_units c_told c_ruleFrom c_ruleTo v23_p_c_code c_eWhat c_eSign m_bank m_rb v23_p_m_codes v23_p_m_within x186 m_unitsInRule m_askStrand m_askTied m_thoughtClaim m_thoughtNeed m_thoughtAll c_roundOf m_acts m_undone m_laid m_firstMove m_seens m_time m_waysNow m_fitting 148 _ from (show okX9 ad m_taped m_size m_faultKind m_faultPlace m_at m_end m_token m_number m_name m_bank m_rb v23_p_m_codes v23_p_m_within x186 m_unitsInRule m_askStrand m_askTied m_thoughtClaim m_thoughtNeed m_thoughtAll m_acts m_undone m_laid m_firstMove m_seens m_time m_waysNow m_fitting 148 _ from ⟨rfl, by omega, by omega, by omega, by omega, by omega, by omega, by omega, by omega, by omega, by omega, by omega, by omega, by omega, by omega, by omega⟩))) hP hD
            have e190 := (hj189 166 (by decide)).trans e19
            refine lv_aload_n hx hb dX9_behindUnit_157 rfl (lv_at hl 1 rfl) ?_
            refine va_get (D := D) (cl := vwCl) (ci := 9) (v := .ref (ad 166)) (C := RX9) (T := TX9) (N := 64) hx hb hts in_X9_behindUnit_X9 hown hK hP 148 (wl_at (by decide) e188) rfl 26 (by decide) (hts (.fieldLink RX9 67 "EightReasonsModel" "eWhat" "[I") (List.mem_of_getElem? (i := 1) rfl)) (fun _ h9 => h9) rfl dX9_behindUnit_158 ?_
            refine lv_aload_n hx hb dX9_behindUnit_161 rfl (lv_at hl 1 rfl) ?_
            refine va_get (D := D) (cl := vwCl) (ci := 9) (v := .int x186) (C := RX9) (T := TX9) (N := 64) hx hb hts in_X9_behindUnit_X9 hown hK hP 148 (wl_at (by decide) e188) rfl 33 (by decide) (hts (.fieldLink RX9 285 "EightReasonsModel" "piled" "I") (List.mem_of_getElem? (i := 2) rfl)) (fun _ h9 => h9) rfl dX9_behindUnit_162 ?_
            refine va_iald hx hb hK hP 166 0 (wl_at (by decide) e190) rfl (vp_in_iff.mpr ⟨by omega, by omega⟩) dX9_behindUnit_165 ?_
            refine lv_topi (fun x191 ex191 => ?_)
            have kx191 := congrArg Int32.toInt ex191
            have hel166 := elz (x := x191) (g := c_eWhat) (z := v23_p_m_piled.toInt - 1) (by assumption) (by omega) (by omega)
            have hcq := c_pop2 (g := c_eWhat) (x := x191) (p := v23_p_m_piled) (q := x186) (by assumption) (by omega) (by omega)
            have hq0 := cQZ_pos c_eWhat x186.toInt
            have hSG := SG_sub (w := x186.toInt) hSG (by omega)
            have hp0 := cPZ_pos c_eWhat x186.toInt
            refine lv_bipush (v := 7) hx hb dX9_behindUnit_166 (by decide) ?_
            have ttl_7 := tl_7
            refine lv_icmp_ne (tgt := 191) hx hb dX9_behindUnit_168 (by decide) (fun c192 => ?_) (fun c192 => ?_)
            · have kc192 := c_ne c192
              refine lv_iconst (v := 0) hx hb dX9_behindUnit_191 (by decide) ?_
              exact tI hx hb hr hlk rfl hP hS ⟨(Or.inr rfl), ⟨m_faultKind, m_faultPlace, m_at, m_end, m_token, m_number, m_name, v23_p_c_code, c_eWhat, c_eSign, v23_p_m_codes, v23_p_m_within, x186, hT, by omega, by omega, by omega, by omega, by omega, by omega, by omega, by omega, by omega, by omega, by omega, hSG, hOK, hFr⟩⟩ dX9_behindUnit_192
            · have kc192 := c_eq c192
              refine lv_aload_n hx hb dX9_behindUnit_171 rfl (lv_at hl 1 rfl) ?_
              refine lv_dup hx hb dX9_behindUnit_172 rfl ?_
              refine va_get (D := D) (cl := vwCl) (ci := 9) (v := .int v23_p_m_within) (C := RX9) (T := TX9) (N := 64) hx hb hts in_X9_behindUnit_X9 hown hK hP 148 (wl_at (by decide) e188) rfl 32 (by decide) (hts (.fieldLink RX9 288 "EightReasonsModel" "within" "I") (List.mem_of_getElem? (i := 3) rfl)) (fun _ h9 => h9) rfl dX9_behindUnit_173 ?_
              have ha193 : 0 ≤ v23_p_m_within.toInt ∧ v23_p_m_within.toInt ≤ 7 := by omega
              refine lv_iconst (v := 1) hx hb dX9_behindUnit_176 (by decide) ?_
              refine lv_isub hx hb dX9_behindUnit_177 ?_
              refine lv_topi (fun x194 ex194 => ?_)
              have hx194 := r_sub ex194 (by omega) (by omega)
              refine va_put (D := D) (cl := vwCl) (ci := 9) (v := .int x194) (ty := tyX9 32) (C := RX9) (T := TX9) (N := 64) hx hb hts in_X9_behindUnit_X9 tyX9 tyX9_ok nmX9 hown hK hP hD hS 148 (wl_at (by decide) e188) rfl 32 (by decide) (hts (.fieldLink RX9 288 "EightReasonsModel" "within" "I") (List.mem_of_getElem? (i := 3) rfl)) (fun _ h9 => h9) rfl (tyX9_ok 32 (by decide)) rfl rfl (Nat.le_of_ble_eq_true rfl) dX9_behindUnit_178 (fun H locs hP hD hS => ?_)
              obtain ⟨f, hT, hP, hD, e195, hj196⟩ := stU (by decide) (TYm.p148 hT (show OKm ad cy c_text m_taped m_size m_faultKind m_faultPlace m_at m_end m_token m_number m_name c_points c_strands c_units c_told c_ruleFrom c_ruleTo v23_p_c_code c_eWhat c_eSign m_bank m_rb v23_p_m_codes x194 x186 m_unitsInRule m_askStrand m_askTied m_thoughtClaim m_thoughtNeed m_thoughtAll c_roundOf m_acts m_undone m_laid m_firstMove m_seens m_time m_waysNow m_fitting 148 _ from (show okX9 ad m_taped m_size m_faultKind m_faultPlace m_at m_end m_token m_number m_name m_bank m_rb v23_p_m_codes x194 x186 m_unitsInRule m_askStrand m_askTied m_thoughtClaim m_thoughtNeed m_thoughtAll m_acts m_undone m_laid m_firstMove m_seens m_time m_waysNow m_fitting 148 _ from ⟨rfl, by omega, by omega, by omega, by omega, by omega, by omega, by omega, by omega, by omega, by omega, by omega, by omega, by omega, by omega, by omega⟩))) hP hD
              have e197 := (hj196 166 (by decide)).trans e190
              refine lv_aload_n hx hb dX9_behindUnit_181 rfl (lv_at hl 1 rfl) ?_
              refine lv_aload_n hx hb dX9_behindUnit_182 rfl (lv_at hl 1 rfl) ?_
              refine lv_bipush (v := 41) hx hb dX9_behindUnit_183 (by decide) ?_
              have ttl_41 := tl_41
              refine tVI (As := [.int 41]) (rest := [.ref (ad 148)]) (i := 148) ⟨hx, hb, hml, hown, hts⟩ hK hE hP hD hS hA hAB (s_X9_isSignHere_0 l B0 adK adV D cy ad fr0 c_text m_taped m_size m_faultKind m_faultPlace m_at m_end m_token m_number m_name c_points c_strands c_units c_told c_ruleFrom c_ruleTo v23_p_c_code c_eWhat c_eSign m_bank m_rb v23_p_m_codes x194 x186 m_unitsInRule m_askStrand m_askTied m_thoughtClaim m_thoughtNeed m_thoughtAll c_roundOf m_acts m_undone m_laid m_firstMove m_seens m_time m_waysNow m_fitting f hT (41 : Int32) (by omega) _) (cwV 1 hts gX9_behindUnit_X9_isSignHere rfl rfl rfl (by decide +kernel) ⟨Nat.le_of_ble_eq_true rfl, Nat.le_of_ble_eq_true rfl⟩) (by decide) 9 e195 rfl rfl hl.1 rfl (Nat.le_of_ble_eq_true rfl) dX9_behindUnit_185 ⟨Nat.le_of_ble_eq_true rfl, Nat.le_of_ble_eq_true rfl⟩ (fun r g H locs hw hP hD hS => ?_)
              obtain ⟨hrs, rfl⟩ := hw
              obtain ⟨x198, rfl⟩ : ∃ q, q = r := ⟨_, rfl⟩
              rcases hrs with ⟨rfl, h199, h200⟩ | rfl
              · refine tVV (As := [.int 1]) (rest := []) (i := 148) ⟨hx, hb, hml, hown, hts⟩ hK hE hP hD hS hA hAB (s_X9_must_0 l B0 adK adV D cy ad fr0 c_text m_taped m_size m_faultKind m_faultPlace m_at m_end m_token m_number m_name c_points c_strands c_units c_told c_ruleFrom c_ruleTo v23_p_c_code c_eWhat c_eSign m_bank m_rb v23_p_m_codes x194 x186 m_unitsInRule m_askStrand m_askTied m_thoughtClaim m_thoughtNeed m_thoughtAll c_roundOf m_acts m_undone m_laid m_firstMove m_seens m_time m_waysNow m_fitting f hT (1 : Int32) (by omega) (by omega) (by omega) _) (cwV 1 hts gX9_behindUnit_X9_must rfl rfl rfl (by decide +kernel) ⟨Nat.le_of_ble_eq_true rfl, Nat.le_of_ble_eq_true rfl⟩) (by decide) 9 e195 rfl rfl hl.1 rfl (Nat.le_of_ble_eq_true rfl) dX9_behindUnit_188 ⟨Nat.le_of_ble_eq_true rfl, Nat.le_of_ble_eq_true rfl⟩ (fun f H locs hw hP hD hS => ?_)
                obtain ⟨hrs, x201, x202, x203, x204, x205, x206, y207, hT, h208, h209, h210⟩ := hw
                refine lv_iconst (v := 0) hx hb dX9_behindUnit_191 (by decide) ?_
                exact tI hx hb hr hlk rfl hP hS ⟨(Or.inr rfl), ⟨x201, x202, x203, x204, x205, x206, y207, v23_p_c_code, c_eWhat, c_eSign, v23_p_m_codes, x194, x186, hT, by omega, by omega, by omega, by omega, by omega, by omega, by omega, by omega, by omega, by omega, by omega, hSG, hOK, hFr⟩⟩ dX9_behindUnit_192
              · refine tVV (As := [.int 0]) (rest := []) (i := 148) ⟨hx, hb, hml, hown, hts⟩ hK hE hP hD hS hA hAB (s_X9_must_0 l B0 adK adV D cy ad fr0 c_text m_taped m_size m_faultKind m_faultPlace m_at m_end m_token m_number m_name c_points c_strands c_units c_told c_ruleFrom c_ruleTo v23_p_c_code c_eWhat c_eSign m_bank m_rb v23_p_m_codes x194 x186 m_unitsInRule m_askStrand m_askTied m_thoughtClaim m_thoughtNeed m_thoughtAll c_roundOf m_acts m_undone m_laid m_firstMove m_seens m_time m_waysNow m_fitting f hT (0 : Int32) (by omega) (by omega) (by omega) _) (cwV 1 hts gX9_behindUnit_X9_must rfl rfl rfl (by decide +kernel) ⟨Nat.le_of_ble_eq_true rfl, Nat.le_of_ble_eq_true rfl⟩) (by decide) 9 e195 rfl rfl hl.1 rfl (Nat.le_of_ble_eq_true rfl) dX9_behindUnit_188 ⟨Nat.le_of_ble_eq_true rfl, Nat.le_of_ble_eq_true rfl⟩ (fun f H locs hw hP hD hS => ?_)
                obtain ⟨hrs, x211, x212, x213, x214, x215, x216, y217, hT, h218, h219, h220⟩ := hw
                refine lv_iconst (v := 0) hx hb dX9_behindUnit_191 (by decide) ?_
                exact tI hx hb hr hlk rfl hP hS ⟨(Or.inr rfl), ⟨x211, x212, x213, x214, x215, x216, y217, v23_p_c_code, c_eWhat, c_eSign, v23_p_m_codes, x194, x186, hT, by omega, by omega, by omega, by omega, by omega, by omega, by omega, by omega, by omega, by omega, by omega, hSG, hOK, hFr⟩⟩ dX9_behindUnit_192
          · have kc185 := c_nle c185
            refine lv_aload_n hx hb dX9_behindUnit_108 rfl (lv_at hl 1 rfl) ?_
            refine lv_iload_n hx hb dX9_behindUnit_109 rfl (lv_at hl 0 rfl) ?_
            refine lv_iload_n hx hb dX9_behindUnit_110 rfl (lv_at hl 0 rfl) ?_
            refine lv_iconst (v := 2) hx hb dX9_behindUnit_111 (by decide) ?_
            have ttl_2 := tl_2
            refine lv_icmp_ne (tgt := 120) hx hb dX9_behindUnit_112 (by decide) (fun c221 => ?_) (fun c221 => ?_)
            · have kc221 := c_ne c221
              refine lv_iload_n hx hb dX9_behindUnit_120 rfl (lv_at hl 0 rfl) ?_
              refine lv_iconst (v := 1) hx hb dX9_behindUnit_121 (by decide) ?_
              refine lv_icmp_ne (tgt := 130) hx hb dX9_behindUnit_122 (by decide) (fun c222 => ?_) (fun c222 => ?_)
              · have kc222 := c_ne c222
                refine lv_aload_n hx hb dX9_behindUnit_130 rfl (lv_at hl 1 rfl) ?_
                refine lv_aload_n hx hb dX9_behindUnit_131 rfl (lv_at hl 1 rfl) ?_
                refine va_get (D := D) (cl := vwCl) (ci := 9) (v := .int m_at) (C := RX9) (T := TX9) (N := 64) hx hb hts in_X9_behindUnit_X9 hown hK hP 148 (wl_at (by decide) e16) rfl 6 (by decide) (hts (.fieldLink RX9 174 "EightReasonsModel" "at" "I") (List.mem_of_getElem? (i := 5) rfl)) (fun _ h9 => h9) rfl dX9_behindUnit_132 ?_
                refine tVI (As := [.int m_at]) (rest := [.int v23_l1, .ref (ad 148)]) (i := 148) ⟨hx, hb, hml, hown, hts⟩ hK hE hP hD hS hA hAB (s_X9_sign_0 l B0 adK adV D cy ad fr0 c_text m_taped m_size m_faultKind m_faultPlace m_at m_end m_token m_number m_name c_points c_strands c_units c_told c_ruleFrom c_ruleTo v23_p_c_code c_eWhat c_eSign m_bank m_rb v23_p_m_codes v23_p_m_within v23_p_m_piled m_unitsInRule m_askStrand m_askTied m_thoughtClaim m_thoughtNeed m_thoughtAll c_roundOf m_acts m_undone m_laid m_firstMove m_seens m_time m_waysNow m_fitting f hT m_at (by omega) _) (cwV 1 hts gX9_behindUnit_X9_sign rfl rfl rfl (by decide +kernel) ⟨Nat.le_of_ble_eq_true rfl, Nat.le_of_ble_eq_true rfl⟩) (by decide) 9 e16 rfl rfl hl.1 rfl (Nat.le_of_ble_eq_true rfl) dX9_behindUnit_135 ⟨Nat.le_of_ble_eq_true rfl, Nat.le_of_ble_eq_true rfl⟩ (fun r g H locs hw hP hD hS => ?_)
                obtain ⟨hrs, rfl⟩ := hw
                obtain ⟨x223, rfl⟩ : ∃ q, q = r := ⟨_, rfl⟩
                rcases hrs with ⟨h224, h225, h226⟩ | ⟨rfl, h227⟩
                · refine tVV (As := [.int v23_l1, .int x223]) (rest := []) (i := 148) ⟨hx, hb, hml, hown, hts⟩ hK hE hP hD hS hA hAB (s_X9_pushE_0 l B0 adK adV D cy ad fr0 c_text m_taped m_size m_faultKind m_faultPlace m_at m_end m_token m_number m_name c_points c_strands c_units c_told c_ruleFrom c_ruleTo v23_p_c_code c_eWhat c_eSign m_bank m_rb v23_p_m_codes v23_p_m_within v23_p_m_piled m_unitsInRule m_askStrand m_askTied m_thoughtClaim m_thoughtNeed m_thoughtAll c_roundOf m_acts m_undone m_laid m_firstMove m_seens m_time m_waysNow m_fitting f hT v23_l1 (by omega) x223 (by omega) (by omega) _) (cwV 2 hts gX9_behindUnit_X9_pushE rfl rfl rfl (by decide +kernel) ⟨Nat.le_of_ble_eq_true rfl, Nat.le_of_ble_eq_true rfl⟩) (by decide) 9 e16 rfl rfl hl.1 rfl (Nat.le_of_ble_eq_true rfl) dX9_behindUnit_138 ⟨Nat.le_of_ble_eq_true rfl, Nat.le_of_ble_eq_true rfl⟩ (fun f H locs hw hP hD hS => ?_)
                  obtain ⟨hrs, y228, y229, x230, hT, h231, h232, hew, hes⟩ := hw
                  have hpu := push_1 (g := c_eWhat) (g' := y228) (p := v23_p_m_piled) (z := x230.toInt) hew (by omega) (by omega) (by omega)
                  have hSG := SG_push (g := c_eWhat) (s := c_eSign) (p := v23_p_m_piled) (z := x230.toInt) hSG hew hes (by omega) (by omega) (by omega) (by omega) (by omega) (by omega) (by omega)
                  refine lv_aload_n hx hb dX9_behindUnit_141 rfl (lv_at hl 1 rfl) ?_
                  obtain ⟨e248, h233, h234, h235, h236, h237, h238, h239, h240, h241, h242, h243, h244, h245, h246, h247⟩ := (show okX9 ad m_taped m_size m_faultKind m_faultPlace m_at m_end m_token m_number m_name m_bank m_rb v23_p_m_codes v23_p_m_within x230 m_unitsInRule m_askStrand m_askTied m_thoughtClaim m_thoughtNeed m_thoughtAll m_acts m_undone m_laid m_firstMove m_seens m_time m_waysNow m_fitting 148 (f 148) from hT.1 148 (by decide))
                  refine tVV (As := []) (rest := []) (i := 148) ⟨hx, hb, hml, hown, hts⟩ hK hE hP hD hS hA hAB (s_X9_goOn_0 l B0 adK adV D cy ad fr0 c_text m_taped m_size m_faultKind m_faultPlace m_at m_end m_token m_number m_name c_points c_strands c_units c_told c_ruleFrom c_ruleTo v23_p_c_code y228 y229 m_bank m_rb v23_p_m_codes v23_p_m_within x230 m_unitsInRule m_askStrand m_askTied m_thoughtClaim m_thoughtNeed m_thoughtAll c_roundOf m_acts m_undone m_laid m_firstMove m_seens m_time m_waysNow m_fitting f hT (by omega) (by omega) _) (cwV 0 hts gX9_behindUnit_X9_goOn rfl rfl rfl (by decide +kernel) ⟨Nat.le_of_ble_eq_true rfl, Nat.le_of_ble_eq_true rfl⟩) (by decide) 9 e248 rfl rfl hl.1 rfl (Nat.le_of_ble_eq_true rfl) dX9_behindUnit_142 ⟨Nat.le_of_ble_eq_true rfl, Nat.le_of_ble_eq_true rfl⟩ (fun f H locs hw hP hD hS => ?_)
                  obtain ⟨hrs, x249, x250, x251, x252, y253, hT, h254, h255, h256⟩ := hw
                  refine lv_iconst (v := 1) hx hb dX9_behindUnit_145 (by decide) ?_
                  exact tI hx hb hr hlk rfl hP hS ⟨(Or.inl rfl), ⟨m_faultKind, m_faultPlace, x249, x250, x251, x252, y253, v23_p_c_code, y228, y229, v23_p_m_codes, v23_p_m_within, x230, hT, by omega, by omega, by omega, by omega, by omega, by omega, by omega, by omega, by omega, by omega, by omega, hSG, hOK, hFr⟩⟩ dX9_behindUnit_146
                · refine tVV (As := [.int v23_l1, .int 0]) (rest := []) (i := 148) ⟨hx, hb, hml, hown, hts⟩ hK hE hP hD hS hA hAB (s_X9_pushE_0 l B0 adK adV D cy ad fr0 c_text m_taped m_size m_faultKind m_faultPlace m_at m_end m_token m_number m_name c_points c_strands c_units c_told c_ruleFrom c_ruleTo v23_p_c_code c_eWhat c_eSign m_bank m_rb v23_p_m_codes v23_p_m_within v23_p_m_piled m_unitsInRule m_askStrand m_askTied m_thoughtClaim m_thoughtNeed m_thoughtAll c_roundOf m_acts m_undone m_laid m_firstMove m_seens m_time m_waysNow m_fitting f hT v23_l1 (by omega) (0 : Int32) (by omega) (by omega) _) (cwV 2 hts gX9_behindUnit_X9_pushE rfl rfl rfl (by decide +kernel) ⟨Nat.le_of_ble_eq_true rfl, Nat.le_of_ble_eq_true rfl⟩) (by decide) 9 e16 rfl rfl hl.1 rfl (Nat.le_of_ble_eq_true rfl) dX9_behindUnit_138 ⟨Nat.le_of_ble_eq_true rfl, Nat.le_of_ble_eq_true rfl⟩ (fun f H locs hw hP hD hS => ?_)
                  obtain ⟨hrs, y257, y258, x259, hT, h260, h261, hew, hes⟩ := hw
                  have hpu := push_1 (g := c_eWhat) (g' := y257) (p := v23_p_m_piled) (z := x259.toInt) hew (by omega) (by omega) (by omega)
                  have hSG := SG_push (g := c_eWhat) (s := c_eSign) (p := v23_p_m_piled) (z := x259.toInt) hSG hew hes (by omega) (by omega) (by omega) (by omega) (by omega) (by omega) (by omega)
                  refine lv_aload_n hx hb dX9_behindUnit_141 rfl (lv_at hl 1 rfl) ?_
                  obtain ⟨e277, h262, h263, h264, h265, h266, h267, h268, h269, h270, h271, h272, h273, h274, h275, h276⟩ := (show okX9 ad m_taped m_size m_faultKind m_faultPlace m_at m_end m_token m_number m_name m_bank m_rb v23_p_m_codes v23_p_m_within x259 m_unitsInRule m_askStrand m_askTied m_thoughtClaim m_thoughtNeed m_thoughtAll m_acts m_undone m_laid m_firstMove m_seens m_time m_waysNow m_fitting 148 (f 148) from hT.1 148 (by decide))
                  refine tVV (As := []) (rest := []) (i := 148) ⟨hx, hb, hml, hown, hts⟩ hK hE hP hD hS hA hAB (s_X9_goOn_0 l B0 adK adV D cy ad fr0 c_text m_taped m_size m_faultKind m_faultPlace m_at m_end m_token m_number m_name c_points c_strands c_units c_told c_ruleFrom c_ruleTo v23_p_c_code y257 y258 m_bank m_rb v23_p_m_codes v23_p_m_within x259 m_unitsInRule m_askStrand m_askTied m_thoughtClaim m_thoughtNeed m_thoughtAll c_roundOf m_acts m_undone m_laid m_firstMove m_seens m_time m_waysNow m_fitting f hT (by omega) (by omega) _) (cwV 0 hts gX9_behindUnit_X9_goOn rfl rfl rfl (by decide +kernel) ⟨Nat.le_of_ble_eq_true rfl, Nat.le_of_ble_eq_true rfl⟩) (by decide) 9 e277 rfl rfl hl.1 rfl (Nat.le_of_ble_eq_true rfl) dX9_behindUnit_142 ⟨Nat.le_of_ble_eq_true rfl, Nat.le_of_ble_eq_true rfl⟩ (fun f H locs hw hP hD hS => ?_)
                  obtain ⟨hrs, x278, x279, x280, x281, y282, hT, h283, h284, h285⟩ := hw
                  refine lv_iconst (v := 1) hx hb dX9_behindUnit_145 (by decide) ?_
                  exact tI hx hb hr hlk rfl hP hS ⟨(Or.inl rfl), ⟨m_faultKind, m_faultPlace, x278, x279, x280, x281, y282, v23_p_c_code, y257, y258, v23_p_m_codes, v23_p_m_within, x259, hT, by omega, by omega, by omega, by omega, by omega, by omega, by omega, by omega, by omega, by omega, by omega, hSG, hOK, hFr⟩⟩ dX9_behindUnit_146
              · have kc222 := c_eq c222
                refine lv_bipush (v := 124) hx hb dX9_behindUnit_125 (by decide) ?_
                refine lv_goto (tgt := 138) hx hb dX9_behindUnit_127 (by decide) ?_
                have ttl_124 := tl_124
                refine tVV (As := [.int v23_l1, .int 124]) (rest := []) (i := 148) ⟨hx, hb, hml, hown, hts⟩ hK hE hP hD hS hA hAB (s_X9_pushE_0 l B0 adK adV D cy ad fr0 c_text m_taped m_size m_faultKind m_faultPlace m_at m_end m_token m_number m_name c_points c_strands c_units c_told c_ruleFrom c_ruleTo v23_p_c_code c_eWhat c_eSign m_bank m_rb v23_p_m_codes v23_p_m_within v23_p_m_piled m_unitsInRule m_askStrand m_askTied m_thoughtClaim m_thoughtNeed m_thoughtAll c_roundOf m_acts m_undone m_laid m_firstMove m_seens m_time m_waysNow m_fitting f hT v23_l1 (by omega) (124 : Int32) (by omega) (by omega) _) (cwV 2 hts gX9_behindUnit_X9_pushE rfl rfl rfl (by decide +kernel) ⟨Nat.le_of_ble_eq_true rfl, Nat.le_of_ble_eq_true rfl⟩) (by decide) 9 e16 rfl rfl hl.1 rfl (Nat.le_of_ble_eq_true rfl) dX9_behindUnit_138 ⟨Nat.le_of_ble_eq_true rfl, Nat.le_of_ble_eq_true rfl⟩ (fun f H locs hw hP hD hS => ?_)
                obtain ⟨hrs, y286, y287, x288, hT, h289, h290, hew, hes⟩ := hw
                have hpu := push_1 (g := c_eWhat) (g' := y286) (p := v23_p_m_piled) (z := x288.toInt) hew (by omega) (by omega) (by omega)
                have hSG := SG_push (g := c_eWhat) (s := c_eSign) (p := v23_p_m_piled) (z := x288.toInt) hSG hew hes (by omega) (by omega) (by omega) (by omega) (by omega) (by omega) (by omega)
                refine lv_aload_n hx hb dX9_behindUnit_141 rfl (lv_at hl 1 rfl) ?_
                obtain ⟨e306, h291, h292, h293, h294, h295, h296, h297, h298, h299, h300, h301, h302, h303, h304, h305⟩ := (show okX9 ad m_taped m_size m_faultKind m_faultPlace m_at m_end m_token m_number m_name m_bank m_rb v23_p_m_codes v23_p_m_within x288 m_unitsInRule m_askStrand m_askTied m_thoughtClaim m_thoughtNeed m_thoughtAll m_acts m_undone m_laid m_firstMove m_seens m_time m_waysNow m_fitting 148 (f 148) from hT.1 148 (by decide))
                refine tVV (As := []) (rest := []) (i := 148) ⟨hx, hb, hml, hown, hts⟩ hK hE hP hD hS hA hAB (s_X9_goOn_0 l B0 adK adV D cy ad fr0 c_text m_taped m_size m_faultKind m_faultPlace m_at m_end m_token m_number m_name c_points c_strands c_units c_told c_ruleFrom c_ruleTo v23_p_c_code y286 y287 m_bank m_rb v23_p_m_codes v23_p_m_within x288 m_unitsInRule m_askStrand m_askTied m_thoughtClaim m_thoughtNeed m_thoughtAll c_roundOf m_acts m_undone m_laid m_firstMove m_seens m_time m_waysNow m_fitting f hT (by omega) (by omega) _) (cwV 0 hts gX9_behindUnit_X9_goOn rfl rfl rfl (by decide +kernel) ⟨Nat.le_of_ble_eq_true rfl, Nat.le_of_ble_eq_true rfl⟩) (by decide) 9 e306 rfl rfl hl.1 rfl (Nat.le_of_ble_eq_true rfl) dX9_behindUnit_142 ⟨Nat.le_of_ble_eq_true rfl, Nat.le_of_ble_eq_true rfl⟩ (fun f H locs hw hP hD hS => ?_)
                obtain ⟨hrs, x307, x308, x309, x310, y311, hT, h312, h313, h314⟩ := hw
                refine lv_iconst (v := 1) hx hb dX9_behindUnit_145 (by decide) ?_
                exact tI hx hb hr hlk rfl hP hS ⟨(Or.inl rfl), ⟨m_faultKind, m_faultPlace, x307, x308, x309, x310, y311, v23_p_c_code, y286, y287, v23_p_m_codes, v23_p_m_within, x288, hT, by omega, by omega, by omega, by omega, by omega, by omega, by omega, by omega, by omega, by omega, by omega, hSG, hOK, hFr⟩⟩ dX9_behindUnit_146
            · have kc221 := c_eq c221
              refine lv_bipush (v := 38) hx hb dX9_behindUnit_115 (by decide) ?_
              refine lv_goto (tgt := 138) hx hb dX9_behindUnit_117 (by decide) ?_
              have ttl_38 := tl_38
              refine tVV (As := [.int v23_l1, .int 38]) (rest := []) (i := 148) ⟨hx, hb, hml, hown, hts⟩ hK hE hP hD hS hA hAB (s_X9_pushE_0 l B0 adK adV D cy ad fr0 c_text m_taped m_size m_faultKind m_faultPlace m_at m_end m_token m_number m_name c_points c_strands c_units c_told c_ruleFrom c_ruleTo v23_p_c_code c_eWhat c_eSign m_bank m_rb v23_p_m_codes v23_p_m_within v23_p_m_piled m_unitsInRule m_askStrand m_askTied m_thoughtClaim m_thoughtNeed m_thoughtAll c_roundOf m_acts m_undone m_laid m_firstMove m_seens m_time m_waysNow m_fitting f hT v23_l1 (by omega) (38 : Int32) (by omega) (by omega) _) (cwV 2 hts gX9_behindUnit_X9_pushE rfl rfl rfl (by decide +kernel) ⟨Nat.le_of_ble_eq_true rfl, Nat.le_of_ble_eq_true rfl⟩) (by decide) 9 e16 rfl rfl hl.1 rfl (Nat.le_of_ble_eq_true rfl) dX9_behindUnit_138 ⟨Nat.le_of_ble_eq_true rfl, Nat.le_of_ble_eq_true rfl⟩ (fun f H locs hw hP hD hS => ?_)
              obtain ⟨hrs, y315, y316, x317, hT, h318, h319, hew, hes⟩ := hw
              have hpu := push_1 (g := c_eWhat) (g' := y315) (p := v23_p_m_piled) (z := x317.toInt) hew (by omega) (by omega) (by omega)
              have hSG := SG_push (g := c_eWhat) (s := c_eSign) (p := v23_p_m_piled) (z := x317.toInt) hSG hew hes (by omega) (by omega) (by omega) (by omega) (by omega) (by omega) (by omega)
              refine lv_aload_n hx hb dX9_behindUnit_141 rfl (lv_at hl 1 rfl) ?_
              obtain ⟨e335, h320, h321, h322, h323, h324, h325, h326, h327, h328, h329, h330, h331, h332, h333, h334⟩ := (show okX9 ad m_taped m_size m_faultKind m_faultPlace m_at m_end m_token m_number m_name m_bank m_rb v23_p_m_codes v23_p_m_within x317 m_unitsInRule m_askStrand m_askTied m_thoughtClaim m_thoughtNeed m_thoughtAll m_acts m_undone m_laid m_firstMove m_seens m_time m_waysNow m_fitting 148 (f 148) from hT.1 148 (by decide))
              refine tVV (As := []) (rest := []) (i := 148) ⟨hx, hb, hml, hown, hts⟩ hK hE hP hD hS hA hAB (s_X9_goOn_0 l B0 adK adV D cy ad fr0 c_text m_taped m_size m_faultKind m_faultPlace m_at m_end m_token m_number m_name c_points c_strands c_units c_told c_ruleFrom c_ruleTo v23_p_c_code y315 y316 m_bank m_rb v23_p_m_codes v23_p_m_within x317 m_unitsInRule m_askStrand m_askTied m_thoughtClaim m_thoughtNeed m_thoughtAll c_roundOf m_acts m_undone m_laid m_firstMove m_seens m_time m_waysNow m_fitting f hT (by omega) (by omega) _) (cwV 0 hts gX9_behindUnit_X9_goOn rfl rfl rfl (by decide +kernel) ⟨Nat.le_of_ble_eq_true rfl, Nat.le_of_ble_eq_true rfl⟩) (by decide) 9 e335 rfl rfl hl.1 rfl (Nat.le_of_ble_eq_true rfl) dX9_behindUnit_142 ⟨Nat.le_of_ble_eq_true rfl, Nat.le_of_ble_eq_true rfl⟩ (fun f H locs hw hP hD hS => ?_)
              obtain ⟨hrs, x336, x337, x338, x339, y340, hT, h341, h342, h343⟩ := hw
              refine lv_iconst (v := 1) hx hb dX9_behindUnit_145 (by decide) ?_
              exact tI hx hb hr hlk rfl hP hS ⟨(Or.inl rfl), ⟨m_faultKind, m_faultPlace, x336, x337, x338, x339, y340, v23_p_c_code, y315, y316, v23_p_m_codes, v23_p_m_within, x317, hT, by omega, by omega, by omega, by omega, by omega, by omega, by omega, by omega, by omega, by omega, by omega, hSG, hOK, hFr⟩⟩ dX9_behindUnit_146
        · have kc184 := c_nlt c184
          refine lv_aload_n hx hb dX9_behindUnit_54 rfl (lv_at hl 1 rfl) ?_
          refine lv_dup hx hb dX9_behindUnit_55 rfl ?_
          refine va_get (D := D) (cl := vwCl) (ci := 9) (v := .int v23_p_m_piled) (C := RX9) (T := TX9) (N := 64) hx hb hts in_X9_behindUnit_X9 hown hK hP 148 (wl_at (by decide) e16) rfl 33 (by decide) (hts (.fieldLink RX9 285 "EightReasonsModel" "piled" "I") (List.mem_of_getElem? (i := 2) rfl)) (fun _ h9 => h9) rfl dX9_behindUnit_56 ?_
          refine lv_iconst (v := 1) hx hb dX9_behindUnit_59 (by decide) ?_
          refine lv_isub hx hb dX9_behindUnit_60 ?_
          refine lv_topi (fun x344 ex344 => ?_)
          have hx344 := r_sub ex344 (by omega) (by omega)
          have ha345 : 0 ≤ x344.toInt ∧ x344.toInt ≤ 89 := by omega
          refine va_put (D := D) (cl := vwCl) (ci := 9) (v := .int x344) (ty := tyX9 33) (C := RX9) (T := TX9) (N := 64) hx hb hts in_X9_behindUnit_X9 tyX9 tyX9_ok nmX9 hown hK hP hD hS 148 (wl_at (by decide) e16) rfl 33 (by decide) (hts (.fieldLink RX9 285 "EightReasonsModel" "piled" "I") (List.mem_of_getElem? (i := 2) rfl)) (fun _ h9 => h9) rfl (tyX9_ok 33 (by decide)) rfl rfl (Nat.le_of_ble_eq_true rfl) dX9_behindUnit_61 (fun H locs hP hD hS => ?_)
          obtain ⟨f, hT, hP, hD, e346, hj347⟩ := stU (by decide) (TYm.p148 hT (show OKm ad cy c_text m_taped m_size m_faultKind m_faultPlace m_at m_end m_token m_number m_name c_points c_strands c_units c_told c_ruleFrom c_ruleTo v23_p_c_code c_eWhat c_eSign m_bank m_rb v23_p_m_codes v23_p_m_within x344 m_unitsInRule m_askStrand m_askTied m_thoughtClaim m_thoughtNeed m_thoughtAll c_roundOf m_acts m_undone m_laid m_firstMove m_seens m_time m_waysNow m_fitting 148 _ from (show okX9 ad m_taped m_size m_faultKind m_faultPlace m_at m_end m_token m_number m_name m_bank m_rb v23_p_m_codes v23_p_m_within x344 m_unitsInRule m_askStrand m_askTied m_thoughtClaim m_thoughtNeed m_thoughtAll m_acts m_undone m_laid m_firstMove m_seens m_time m_waysNow m_fitting 148 _ from ⟨rfl, by omega, by omega, by omega, by omega, by omega, by omega, by omega, by omega, by omega, by omega, by omega, by omega, by omega, by omega, by omega⟩))) hP hD
          have e348 := (hj347 166 (by decide)).trans e19
          refine lv_aload_n hx hb dX9_behindUnit_64 rfl (lv_at hl 1 rfl) ?_
          refine va_get (D := D) (cl := vwCl) (ci := 9) (v := .ref (ad 166)) (C := RX9) (T := TX9) (N := 64) hx hb hts in_X9_behindUnit_X9 hown hK hP 148 (wl_at (by decide) e346) rfl 26 (by decide) (hts (.fieldLink RX9 67 "EightReasonsModel" "eWhat" "[I") (List.mem_of_getElem? (i := 1) rfl)) (fun _ h9 => h9) rfl dX9_behindUnit_65 ?_
          refine lv_aload_n hx hb dX9_behindUnit_68 rfl (lv_at hl 1 rfl) ?_
          refine va_get (D := D) (cl := vwCl) (ci := 9) (v := .int x344) (C := RX9) (T := TX9) (N := 64) hx hb hts in_X9_behindUnit_X9 hown hK hP 148 (wl_at (by decide) e346) rfl 33 (by decide) (hts (.fieldLink RX9 285 "EightReasonsModel" "piled" "I") (List.mem_of_getElem? (i := 2) rfl)) (fun _ h9 => h9) rfl dX9_behindUnit_69 ?_
          refine va_iald hx hb hK hP 166 0 (wl_at (by decide) e348) rfl (vp_in_iff.mpr ⟨by omega, by omega⟩) dX9_behindUnit_72 ?_
          refine lv_topi (fun x349 ex349 => ?_)
          have kx349 := congrArg Int32.toInt ex349
          have hel73 := elz (x := x349) (g := c_eWhat) (z := v23_p_m_piled.toInt - 1) (by assumption) (by omega) (by omega)
          have hcq := c_pop2 (g := c_eWhat) (x := x349) (p := v23_p_m_piled) (q := x344) (by assumption) (by omega) (by omega)
          have hp0 := cPZ_pos c_eWhat x344.toInt
          have hq0 := cQZ_pos c_eWhat x344.toInt
          refine lv_iconst (v := 3) hx hb dX9_behindUnit_73 (by decide) ?_
          have ttl_3 := tl_3
          refine lv_icmp_ne (tgt := 87) hx hb dX9_behindUnit_74 (by decide) (fun c350 => ?_) (fun c350 => ?_)
          · have kc350 := c_ne c350
            refine lv_aload_n hx hb dX9_behindUnit_87 rfl (lv_at hl 1 rfl) ?_
            refine lv_aload_n hx hb dX9_behindUnit_88 rfl (lv_at hl 1 rfl) ?_
            refine va_get (D := D) (cl := vwCl) (ci := 9) (v := .ref (ad 167)) (C := RX9) (T := TX9) (N := 64) hx hb hts in_X9_behindUnit_X9 hown hK hP 148 (wl_at (by decide) e346) rfl 27 (by decide) (hts (.fieldLink RX9 70 "EightReasonsModel" "eSign" "[I") (List.mem_of_getElem? (i := 4) rfl)) (fun _ h9 => h9) rfl dX9_behindUnit_89 ?_
            refine lv_aload_n hx hb dX9_behindUnit_92 rfl (lv_at hl 1 rfl) ?_
            refine va_get (D := D) (cl := vwCl) (ci := 9) (v := .int x344) (C := RX9) (T := TX9) (N := 64) hx hb hts in_X9_behindUnit_X9 hown hK hP 148 (wl_at (by decide) e346) rfl 33 (by decide) (hts (.fieldLink RX9 285 "EightReasonsModel" "piled" "I") (List.mem_of_getElem? (i := 2) rfl)) (fun _ h9 => h9) rfl dX9_behindUnit_93 ?_
            have e351 : f 167 = _ := (show okIp cy 90 c_eSign (f 167) from hT.1 167 (by decide))
            refine va_iald hx hb hK hP 167 0 (wl_at (by decide) e351) rfl (vp_in_iff.mpr ⟨by omega, by omega⟩) dX9_behindUnit_96 ?_
            refine lv_topi (fun x352 ex352 => ?_)
            have kx352 := congrArg Int32.toInt ex352
            have hsg := SG_sign2 (v := x352) hSG (by assumption) (by assumption) (by omega) (by omega)
            refine lv_iconst (v := 0) hx hb dX9_behindUnit_97 (by decide) ?_
            have ttl_0 := tl_0
            refine tVV (As := [.int x352, .int 0]) (rest := []) (i := 148) ⟨hx, hb, hml, hown, hts⟩ hK hE hP hD hS hA hAB (s_X9_emit_0 l B0 adK adV D cy ad fr0 c_text m_taped m_size m_faultKind m_faultPlace m_at m_end m_token m_number m_name c_points c_strands c_units c_told c_ruleFrom c_ruleTo v23_p_c_code c_eWhat c_eSign m_bank m_rb v23_p_m_codes v23_p_m_within x344 m_unitsInRule m_askStrand m_askTied m_thoughtClaim m_thoughtNeed m_thoughtAll c_roundOf m_acts m_undone m_laid m_firstMove m_seens m_time m_waysNow m_fitting f hT x352 (0 : Int32) (by omega) _) (cwV 2 hts gX9_behindUnit_X9_emit rfl rfl rfl (by decide +kernel) ⟨Nat.le_of_ble_eq_true rfl, Nat.le_of_ble_eq_true rfl⟩) (by decide) 9 e346 rfl rfl hl.1 rfl (Nat.le_of_ble_eq_true rfl) dX9_behindUnit_98 ⟨Nat.le_of_ble_eq_true rfl, Nat.le_of_ble_eq_true rfl⟩ (fun f H locs hw hP hD hS => ?_)
            obtain ⟨hrs, y353, x354, hT, h355, h356, hcd⟩ := hw
            have hdp := dpZ_push (cd := v23_p_c_code) (cd' := y353) (a := (c_ruleFrom m_rb.toNatClampNeg)) (k := v23_p_m_codes) (z := x354.toInt) hcd (by omega) (by omega) (by omega)
            have hOK := okcZ_push (cd := v23_p_c_code) (cd' := y353) (a := (c_ruleFrom m_rb.toNatClampNeg)) (k := v23_p_m_codes) (z := x354.toInt) hOK hcd (by omega) (by omega) (by omega) (by omega)
            have hFr := FrC_up (cd1 := v23_p_c_code) (k := v23_p_m_codes) hFr hcd (by omega) (by omega) (by omega)
            have hSG := SG_sub (w := x344.toInt) hSG (by omega)
            refine lv_goto (tgt := 23) hx hb dX9_behindUnit_101 (by decide) ?_
            obtain ⟨e372, h357, h358, h359, h360, h361, h362, h363, h364, h365, h366, h367, h368, h369, h370, h371⟩ := (show okX9 ad m_taped m_size m_faultKind m_faultPlace m_at m_end m_token m_number m_name m_bank m_rb x354 v23_p_m_within x344 m_unitsInRule m_askStrand m_askTied m_thoughtClaim m_thoughtNeed m_thoughtAll m_acts m_undone m_laid m_firstMove m_seens m_time m_waysNow m_fitting 148 (f 148) from hT.1 148 (by decide))
            exact ih23 f H locs ls v23_l1 y353 x354 v23_p_m_within x344 (by omega) (by omega) (by omega) (by omega) (by omega) (by omega) (by omega) (by omega) (by omega) (by omega) (by omega) (by omega) (by omega) (hSG) (hOK) (hFr) hT hP hD hS (lv_sub hl [0, 1] rfl)
          · have kc350 := c_eq c350
            refine lv_aload_n hx hb dX9_behindUnit_77 rfl (lv_at hl 1 rfl) ?_
            refine lv_dup hx hb dX9_behindUnit_78 rfl ?_
            refine va_get (D := D) (cl := vwCl) (ci := 9) (v := .int v23_p_m_within) (C := RX9) (T := TX9) (N := 64) hx hb hts in_X9_behindUnit_X9 hown hK hP 148 (wl_at (by decide) e346) rfl 32 (by decide) (hts (.fieldLink RX9 288 "EightReasonsModel" "within" "I") (List.mem_of_getElem? (i := 3) rfl)) (fun _ h9 => h9) rfl dX9_behindUnit_79 ?_
            have ha373 : 0 ≤ v23_p_m_within.toInt ∧ v23_p_m_within.toInt ≤ 7 := by omega
            refine lv_iconst (v := 1) hx hb dX9_behindUnit_82 (by decide) ?_
            refine lv_isub hx hb dX9_behindUnit_83 ?_
            refine lv_topi (fun x374 ex374 => ?_)
            have hx374 := r_sub ex374 (by omega) (by omega)
            refine va_put (D := D) (cl := vwCl) (ci := 9) (v := .int x374) (ty := tyX9 32) (C := RX9) (T := TX9) (N := 64) hx hb hts in_X9_behindUnit_X9 tyX9 tyX9_ok nmX9 hown hK hP hD hS 148 (wl_at (by decide) e346) rfl 32 (by decide) (hts (.fieldLink RX9 288 "EightReasonsModel" "within" "I") (List.mem_of_getElem? (i := 3) rfl)) (fun _ h9 => h9) rfl (tyX9_ok 32 (by decide)) rfl rfl (Nat.le_of_ble_eq_true rfl) dX9_behindUnit_84 (fun H locs hP hD hS => ?_)
            obtain ⟨f, hT, hP, hD, e375, hj376⟩ := stU (by decide) (TYm.p148 hT (show OKm ad cy c_text m_taped m_size m_faultKind m_faultPlace m_at m_end m_token m_number m_name c_points c_strands c_units c_told c_ruleFrom c_ruleTo v23_p_c_code c_eWhat c_eSign m_bank m_rb v23_p_m_codes x374 x344 m_unitsInRule m_askStrand m_askTied m_thoughtClaim m_thoughtNeed m_thoughtAll c_roundOf m_acts m_undone m_laid m_firstMove m_seens m_time m_waysNow m_fitting 148 _ from (show okX9 ad m_taped m_size m_faultKind m_faultPlace m_at m_end m_token m_number m_name m_bank m_rb v23_p_m_codes x374 x344 m_unitsInRule m_askStrand m_askTied m_thoughtClaim m_thoughtNeed m_thoughtAll m_acts m_undone m_laid m_firstMove m_seens m_time m_waysNow m_fitting 148 _ from ⟨rfl, by omega, by omega, by omega, by omega, by omega, by omega, by omega, by omega, by omega, by omega, by omega, by omega, by omega, by omega, by omega⟩))) hP hD
            have e377 := (hj376 166 (by decide)).trans e348
            refine lv_aload_n hx hb dX9_behindUnit_87 rfl (lv_at hl 1 rfl) ?_
            refine lv_aload_n hx hb dX9_behindUnit_88 rfl (lv_at hl 1 rfl) ?_
            refine va_get (D := D) (cl := vwCl) (ci := 9) (v := .ref (ad 167)) (C := RX9) (T := TX9) (N := 64) hx hb hts in_X9_behindUnit_X9 hown hK hP 148 (wl_at (by decide) e375) rfl 27 (by decide) (hts (.fieldLink RX9 70 "EightReasonsModel" "eSign" "[I") (List.mem_of_getElem? (i := 4) rfl)) (fun _ h9 => h9) rfl dX9_behindUnit_89 ?_
            refine lv_aload_n hx hb dX9_behindUnit_92 rfl (lv_at hl 1 rfl) ?_
            refine va_get (D := D) (cl := vwCl) (ci := 9) (v := .int x344) (C := RX9) (T := TX9) (N := 64) hx hb hts in_X9_behindUnit_X9 hown hK hP 148 (wl_at (by decide) e375) rfl 33 (by decide) (hts (.fieldLink RX9 285 "EightReasonsModel" "piled" "I") (List.mem_of_getElem? (i := 2) rfl)) (fun _ h9 => h9) rfl dX9_behindUnit_93 ?_
            have e378 : f 167 = _ := (show okIp cy 90 c_eSign (f 167) from hT.1 167 (by decide))
            refine va_iald hx hb hK hP 167 0 (wl_at (by decide) e378) rfl (vp_in_iff.mpr ⟨by omega, by omega⟩) dX9_behindUnit_96 ?_
            refine lv_topi (fun x379 ex379 => ?_)
            have kx379 := congrArg Int32.toInt ex379
            have hsg := SG_sign2 (v := x379) hSG (by assumption) (by assumption) (by omega) (by omega)
            refine lv_iconst (v := 0) hx hb dX9_behindUnit_97 (by decide) ?_
            have ttl_0 := tl_0
            refine tVV (As := [.int x379, .int 0]) (rest := []) (i := 148) ⟨hx, hb, hml, hown, hts⟩ hK hE hP hD hS hA hAB (s_X9_emit_0 l B0 adK adV D cy ad fr0 c_text m_taped m_size m_faultKind m_faultPlace m_at m_end m_token m_number m_name c_points c_strands c_units c_told c_ruleFrom c_ruleTo v23_p_c_code c_eWhat c_eSign m_bank m_rb v23_p_m_codes x374 x344 m_unitsInRule m_askStrand m_askTied m_thoughtClaim m_thoughtNeed m_thoughtAll c_roundOf m_acts m_undone m_laid m_firstMove m_seens m_time m_waysNow m_fitting f hT x379 (0 : Int32) (by omega) _) (cwV 2 hts gX9_behindUnit_X9_emit rfl rfl rfl (by decide +kernel) ⟨Nat.le_of_ble_eq_true rfl, Nat.le_of_ble_eq_true rfl⟩) (by decide) 9 e375 rfl rfl hl.1 rfl (Nat.le_of_ble_eq_true rfl) dX9_behindUnit_98 ⟨Nat.le_of_ble_eq_true rfl, Nat.le_of_ble_eq_true rfl⟩ (fun f H locs hw hP hD hS => ?_)
            obtain ⟨hrs, y380, x381, hT, h382, h383, hcd⟩ := hw
            have hdp := dpZ_push (cd := v23_p_c_code) (cd' := y380) (a := (c_ruleFrom m_rb.toNatClampNeg)) (k := v23_p_m_codes) (z := x381.toInt) hcd (by omega) (by omega) (by omega)
            have hOK := okcZ_push (cd := v23_p_c_code) (cd' := y380) (a := (c_ruleFrom m_rb.toNatClampNeg)) (k := v23_p_m_codes) (z := x381.toInt) hOK hcd (by omega) (by omega) (by omega) (by omega)
            have hFr := FrC_up (cd1 := v23_p_c_code) (k := v23_p_m_codes) hFr hcd (by omega) (by omega) (by omega)
            have hSG := SG_sub (w := x344.toInt) hSG (by omega)
            refine lv_goto (tgt := 23) hx hb dX9_behindUnit_101 (by decide) ?_
            obtain ⟨e399, h384, h385, h386, h387, h388, h389, h390, h391, h392, h393, h394, h395, h396, h397, h398⟩ := (show okX9 ad m_taped m_size m_faultKind m_faultPlace m_at m_end m_token m_number m_name m_bank m_rb x381 x374 x344 m_unitsInRule m_askStrand m_askTied m_thoughtClaim m_thoughtNeed m_thoughtAll m_acts m_undone m_laid m_firstMove m_seens m_time m_waysNow m_fitting 148 (f 148) from hT.1 148 (by decide))
            exact ih23 f H locs ls v23_l1 y380 x381 x374 x344 (by omega) (by omega) (by omega) (by omega) (by omega) (by omega) (by omega) (by omega) (by omega) (by omega) (by omega) (by omega) (by omega) (hSG) (hOK) (hFr) hT hP hD hS (lv_sub hl [0, 1] rfl)
  have hFr := FrC_rf c_code m_rb
  refine lv_aload_n hx hb dX9_behindUnit_0 rfl (lv_at hl 0 rfl) ?_
  obtain ⟨e415, h400, h401, h402, h403, h404, h405, h406, h407, h408, h409, h410, h411, h412, h413, h414⟩ := (show okX9 ad m_taped m_size m_faultKind m_faultPlace m_at m_end m_token m_number m_name m_bank m_rb m_codes m_within m_piled m_unitsInRule m_askStrand m_askTied m_thoughtClaim m_thoughtNeed m_thoughtAll m_acts m_undone m_laid m_firstMove m_seens m_time m_waysNow m_fitting 148 (f 148) from hT.1 148 (by decide))
  refine tVI (As := []) (rest := []) (i := 148) ⟨hx, hb, hml, hown, hts⟩ hK hE hP hD hS hA hAB (s_X9_rankHere_0 l B0 adK adV D cy ad fr0 c_text m_taped m_size m_faultKind m_faultPlace m_at m_end m_token m_number m_name c_points c_strands c_units c_told c_ruleFrom c_ruleTo c_code c_eWhat c_eSign m_bank m_rb m_codes m_within m_piled m_unitsInRule m_askStrand m_askTied m_thoughtClaim m_thoughtNeed m_thoughtAll c_roundOf m_acts m_undone m_laid m_firstMove m_seens m_time m_waysNow m_fitting f hT _) (cwV 0 hts gX9_behindUnit_X9_rankHere rfl rfl rfl (by decide +kernel) ⟨Nat.le_of_ble_eq_true rfl, Nat.le_of_ble_eq_true rfl⟩) (by decide) 9 e415 rfl rfl hl.1 rfl (Nat.le_of_ble_eq_true rfl) dX9_behindUnit_1 ⟨Nat.le_of_ble_eq_true rfl, Nat.le_of_ble_eq_true rfl⟩ (fun r g H locs hw hP hD hS => ?_)
  obtain ⟨hrs, rfl⟩ := hw
  obtain ⟨x416, rfl⟩ : ∃ q, q = r := ⟨_, rfl⟩
  rcases hrs with ⟨rfl, h417⟩ | ⟨rfl, h418⟩ | ⟨rfl, h419, h420⟩ | ⟨rfl, h421, h422⟩ | ⟨rfl, h423, h424⟩ | rfl
  · refine lv_istore_n (lv' := [(1, .int 2), (0, .ref (ad 148))]) hx hb dX9_behindUnit_4 rfl hl (by decide) rfl (fun ls hl => ?_)
    refine lv_iload_n hx hb dX9_behindUnit_5 rfl (lv_at hl 0 rfl) ?_
    refine lv_iconst (v := 4) hx hb dX9_behindUnit_6 (by decide) ?_
    refine lv_icmp_ne (tgt := 23) hx hb dX9_behindUnit_7 (by decide) (fun _ => ?_) (fun c => absurd c (by decide))
    have ttl_2 := tl_2
    exact j23 (Int.toNat (m_piled.toInt + 1)) f H locs ls (2 : Int32) c_code m_codes m_within m_piled (by omega) (by omega) (by omega) (by omega) (by omega) (by omega) (by omega) (by omega) (by omega) (by omega) (by omega) (by omega) (by omega) (hSG) (hOK) (hFr) hT hP hD hS (lv_sub hl [0, 1] rfl)
  · refine lv_istore_n (lv' := [(1, .int 1), (0, .ref (ad 148))]) hx hb dX9_behindUnit_4 rfl hl (by decide) rfl (fun ls hl => ?_)
    refine lv_iload_n hx hb dX9_behindUnit_5 rfl (lv_at hl 0 rfl) ?_
    refine lv_iconst (v := 4) hx hb dX9_behindUnit_6 (by decide) ?_
    refine lv_icmp_ne (tgt := 23) hx hb dX9_behindUnit_7 (by decide) (fun _ => ?_) (fun c => absurd c (by decide))
    have ttl_1 := tl_1
    exact j23 (Int.toNat (m_piled.toInt + 1)) f H locs ls (1 : Int32) c_code m_codes m_within m_piled (by omega) (by omega) (by omega) (by omega) (by omega) (by omega) (by omega) (by omega) (by omega) (by omega) (by omega) (by omega) (by omega) (hSG) (hOK) (hFr) hT hP hD hS (lv_sub hl [0, 1] rfl)
  · refine lv_istore_n (lv' := [(1, .int 4), (0, .ref (ad 148))]) hx hb dX9_behindUnit_4 rfl hl (by decide) rfl (fun ls hl => ?_)
    refine lv_iload_n hx hb dX9_behindUnit_5 rfl (lv_at hl 0 rfl) ?_
    refine lv_iconst (v := 4) hx hb dX9_behindUnit_6 (by decide) ?_
    refine lv_icmp_ne (tgt := 23) hx hb dX9_behindUnit_7 (by decide) (fun c => absurd (by decide) c) (fun _ => ?_)
    refine lv_aload_n hx hb dX9_behindUnit_10 rfl (lv_at hl 1 rfl) ?_
    refine tVI (As := []) (rest := []) (i := 148) ⟨hx, hb, hml, hown, hts⟩ hK hE hP hD hS hA hAB (s_X9_isCompared_0 l B0 adK adV D cy ad fr0 c_text m_taped m_size m_faultKind m_faultPlace m_at m_end m_token m_number m_name c_points c_strands c_units c_told c_ruleFrom c_ruleTo c_code c_eWhat c_eSign m_bank m_rb m_codes m_within m_piled m_unitsInRule m_askStrand m_askTied m_thoughtClaim m_thoughtNeed m_thoughtAll c_roundOf m_acts m_undone m_laid m_firstMove m_seens m_time m_waysNow m_fitting f hT hSG (by omega) _) (cwV 0 hts gX9_behindUnit_X9_isCompared rfl rfl rfl (by decide +kernel) ⟨Nat.le_of_ble_eq_true rfl, Nat.le_of_ble_eq_true rfl⟩) (by decide) 9 e415 rfl rfl hl.1 rfl (Nat.le_of_ble_eq_true rfl) dX9_behindUnit_11 ⟨Nat.le_of_ble_eq_true rfl, Nat.le_of_ble_eq_true rfl⟩ (fun r g H locs hw hP hD hS => ?_)
    obtain ⟨hrs, rfl⟩ := hw
    obtain ⟨x425, rfl⟩ : ∃ q, q = r := ⟨_, rfl⟩
    rcases hrs with rfl | rfl
    · refine lv_if_eq (tgt := 23) hx hb dX9_behindUnit_14 (by decide) (fun c => absurd c (by decide)) (fun _ => ?_)
      refine lv_aload_n hx hb dX9_behindUnit_17 rfl (lv_at hl 1 rfl) ?_
      refine tVV (As := []) (rest := []) (i := 148) ⟨hx, hb, hml, hown, hts⟩ hK hE hP hD hS hA hAB (s_X9_misplaced_0 l B0 adK adV D cy ad fr0 c_text m_taped m_size m_faultKind m_faultPlace m_at m_end m_token m_number m_name c_points c_strands c_units c_told c_ruleFrom c_ruleTo c_code c_eWhat c_eSign m_bank m_rb m_codes m_within m_piled m_unitsInRule m_askStrand m_askTied m_thoughtClaim m_thoughtNeed m_thoughtAll c_roundOf m_acts m_undone m_laid m_firstMove m_seens m_time m_waysNow m_fitting f hT _) (cwV 0 hts gX9_behindUnit_X9_misplaced rfl rfl rfl (by decide +kernel) ⟨Nat.le_of_ble_eq_true rfl, Nat.le_of_ble_eq_true rfl⟩) (by decide) 9 e415 rfl rfl hl.1 rfl (Nat.le_of_ble_eq_true rfl) dX9_behindUnit_18 ⟨Nat.le_of_ble_eq_true rfl, Nat.le_of_ble_eq_true rfl⟩ (fun f H locs hw hP hD hS => ?_)
      obtain ⟨hrs, x426, x427, hT, h428⟩ := hw
      refine lv_iconst (v := 1) hx hb dX9_behindUnit_21 (by decide) ?_
      have ttl_1 := tl_1
      exact tI hx hb hr hlk rfl hP hS ⟨(Or.inl rfl), ⟨x426, x427, m_at, m_end, m_token, m_number, m_name, c_code, c_eWhat, c_eSign, m_codes, m_within, m_piled, hT, by omega, by omega, by omega, by omega, by omega, by omega, by omega, by omega, by omega, by omega, by omega, hSG, hOK, hFr⟩⟩ dX9_behindUnit_22
    · refine lv_if_eq (tgt := 23) hx hb dX9_behindUnit_14 (by decide) (fun _ => ?_) (fun c => absurd (by decide) c)
      have ttl_4 := tl_4
      exact j23 (Int.toNat (m_piled.toInt + 1)) f H locs ls (4 : Int32) c_code m_codes m_within m_piled (by omega) (by omega) (by omega) (by omega) (by omega) (by omega) (by omega) (by omega) (by omega) (by omega) (by omega) (by omega) (by omega) (hSG) (hOK) (hFr) hT hP hD hS (lv_sub hl [0, 1] rfl)
  · refine lv_istore_n (lv' := [(1, .int 5), (0, .ref (ad 148))]) hx hb dX9_behindUnit_4 rfl hl (by decide) rfl (fun ls hl => ?_)
    refine lv_iload_n hx hb dX9_behindUnit_5 rfl (lv_at hl 0 rfl) ?_
    refine lv_iconst (v := 4) hx hb dX9_behindUnit_6 (by decide) ?_
    refine lv_icmp_ne (tgt := 23) hx hb dX9_behindUnit_7 (by decide) (fun _ => ?_) (fun c => absurd c (by decide))
    have ttl_5 := tl_5
    exact j23 (Int.toNat (m_piled.toInt + 1)) f H locs ls (5 : Int32) c_code m_codes m_within m_piled (by omega) (by omega) (by omega) (by omega) (by omega) (by omega) (by omega) (by omega) (by omega) (by omega) (by omega) (by omega) (by omega) (hSG) (hOK) (hFr) hT hP hD hS (lv_sub hl [0, 1] rfl)
  · refine lv_istore_n (lv' := [(1, .int 6), (0, .ref (ad 148))]) hx hb dX9_behindUnit_4 rfl hl (by decide) rfl (fun ls hl => ?_)
    refine lv_iload_n hx hb dX9_behindUnit_5 rfl (lv_at hl 0 rfl) ?_
    refine lv_iconst (v := 4) hx hb dX9_behindUnit_6 (by decide) ?_
    refine lv_icmp_ne (tgt := 23) hx hb dX9_behindUnit_7 (by decide) (fun _ => ?_) (fun c => absurd c (by decide))
    have ttl_6 := tl_6
    exact j23 (Int.toNat (m_piled.toInt + 1)) f H locs ls (6 : Int32) c_code m_codes m_within m_piled (by omega) (by omega) (by omega) (by omega) (by omega) (by omega) (by omega) (by omega) (by omega) (by omega) (by omega) (by omega) (by omega) (hSG) (hOK) (hFr) hT hP hD hS (lv_sub hl [0, 1] rfl)
  · refine lv_istore_n (lv' := [(1, .int 0), (0, .ref (ad 148))]) hx hb dX9_behindUnit_4 rfl hl (by decide) rfl (fun ls hl => ?_)
    refine lv_iload_n hx hb dX9_behindUnit_5 rfl (lv_at hl 0 rfl) ?_
    refine lv_iconst (v := 4) hx hb dX9_behindUnit_6 (by decide) ?_
    refine lv_icmp_ne (tgt := 23) hx hb dX9_behindUnit_7 (by decide) (fun _ => ?_) (fun c => absurd c (by decide))
    have ttl_0 := tl_0
    exact j23 (Int.toNat (m_piled.toInt + 1)) f H locs ls (0 : Int32) c_code m_codes m_within m_piled (by omega) (by omega) (by omega) (by omega) (by omega) (by omega) (by omega) (by omega) (by omega) (by omega) (by omega) (by omega) (by omega) (hSG) (hOK) (hFr) hT hP hD hS (lv_sub hl [0, 1] rfl)
set_option maxHeartbeats 4000000 in
set_option maxRecDepth 100000 in
theorem s_X9_wordHere_0 (l : Launch) (B0 : Nat) (adK adV : Nat → Nat) (D : va_G) (cy : Nat → ClassId) (ad : Nat → Nat) (fr0 : Nat → va_E) (c_text : Nat → Int32) (m_taped : Int32) (m_size : Int32) (m_faultKind : Int32) (m_faultPlace : Int32) (m_at : Int32) (m_end : Int32) (m_token : Int32) (m_number : Int32) (m_name : Int64) (c_points : Nat → Int32) (c_strands : Nat → Int32) (c_units : Nat → Int32) (c_told : Nat → Int32) (c_ruleFrom : Nat → Int32) (c_ruleTo : Nat → Int32) (c_code : Nat → Int32) (c_eWhat : Nat → Int32) (c_eSign : Nat → Int32) (m_bank : Int32) (m_rb : Int32) (m_codes : Int32) (m_within : Int32) (m_piled : Int32) (m_unitsInRule : Int32) (m_askStrand : Int32) (m_askTied : Int32) (m_thoughtClaim : Int32) (m_thoughtNeed : Int32) (m_thoughtAll : Int32) (c_roundOf : Nat → Int32) (m_acts : Int32) (m_undone : Int32) (m_laid : Int32) (m_firstMove : Int32) (m_seens : Int32) (m_time : Int32) (m_waysNow : Int32) (m_fitting : Int32) (f : Nat → va_E) (hT : TYm ad cy fr0 c_text m_taped m_size m_faultKind m_faultPlace m_at m_end m_token m_number m_name c_points c_strands c_units c_told c_ruleFrom c_ruleTo c_code c_eWhat c_eSign m_bank m_rb m_codes m_within m_piled m_unitsInRule m_askStrand m_askTied m_thoughtClaim m_thoughtNeed m_thoughtAll c_roundOf m_acts m_undone m_laid m_firstMove m_seens m_time m_waysNow m_fitting f) (sz : Nat) : TtI l yX9_wordHere wsX9_wordHere 1 22 [.ref (ad 148)] B0 adK adV D cy ad f sz (fun (r : Int32) (g : Nat → va_E) => ((m_token.toInt = 3 ∧ (97 ≤ r.toInt ∧ r.toInt ≤ 122)) ∨ (r = 0)) ∧ (f = g)) := by
  refine TtI.of (cc := cX9_wordHere) (maxL := 1) (ty := .int) (own := RX9) (by decide) rfl (Nat.le_of_ble_eq_true rfl) rfl ?_
  intro p e s m below meth c A ls hx hb hr hml hts hown hlk hK hE hP hD hS hA hAB hl
  have hl : lv_has ls 1 [(0, .ref (ad 148))] := hl
  refine st0 (fun H locs hP hS => ?_) hP hS
  refine lv_aload_n hx hb dX9_wordHere_0 rfl (lv_at hl 0 rfl) ?_
  have ttlj_126943973305959 := tlj_126943973305959
  refine lv_ldc2 (v := 126943973305959) hx hb hown (hts (.constantLong RX9 151 (126943973305959)) (List.mem_of_getElem? (i := 1) rfl)) dX9_wordHere_1 ?_
  obtain ⟨e16, h1, h2, h3, h4, h5, h6, h7, h8, h9, h10, h11, h12, h13, h14, h15⟩ := (show okX9 ad m_taped m_size m_faultKind m_faultPlace m_at m_end m_token m_number m_name m_bank m_rb m_codes m_within m_piled m_unitsInRule m_askStrand m_askTied m_thoughtClaim m_thoughtNeed m_thoughtAll m_acts m_undone m_laid m_firstMove m_seens m_time m_waysNow m_fitting 148 (f 148) from hT.1 148 (by decide))
  refine tVI (As := [.long 126943973305959]) (rest := []) (i := 148) ⟨hx, hb, hml, hown, hts⟩ hK hE hP hD hS hA hAB (s_X9_isWord_0 l B0 adK adV D cy ad fr0 c_text m_taped m_size m_faultKind m_faultPlace m_at m_end m_token m_number m_name c_points c_strands c_units c_told c_ruleFrom c_ruleTo c_code c_eWhat c_eSign m_bank m_rb m_codes m_within m_piled m_unitsInRule m_askStrand m_askTied m_thoughtClaim m_thoughtNeed m_thoughtAll c_roundOf m_acts m_undone m_laid m_firstMove m_seens m_time m_waysNow m_fitting f hT (126943973305959 : Int64) _) (cwV 1 hts gX9_wordHere_X9_isWord rfl rfl rfl (by decide +kernel) ⟨Nat.le_of_ble_eq_true rfl, Nat.le_of_ble_eq_true rfl⟩) (by decide) 9 e16 rfl rfl hl.1 rfl (Nat.le_of_ble_eq_true rfl) dX9_wordHere_4 ⟨Nat.le_of_ble_eq_true rfl, Nat.le_of_ble_eq_true rfl⟩ (fun r g H locs hw hP hD hS => ?_)
  obtain ⟨hrs, rfl⟩ := hw
  obtain ⟨x17, rfl⟩ : ∃ q, q = r := ⟨_, rfl⟩
  rcases hrs with ⟨rfl, h18, h19⟩ | ⟨rfl, h20⟩
  · refine lv_if_eq (tgt := 13) hx hb dX9_wordHere_7 (by decide) (fun c => absurd c (by decide)) (fun _ => ?_)
    refine lv_bipush (v := 115) hx hb dX9_wordHere_10 (by decide) ?_
    have ttl_115 := tl_115
    exact tI hx hb hr hlk rfl hP hS ⟨(Or.inl ⟨by omega, by omega⟩), rfl⟩ dX9_wordHere_12
  · refine lv_if_eq (tgt := 13) hx hb dX9_wordHere_7 (by decide) (fun _ => ?_) (fun c => absurd (by decide) c)
    refine lv_aload_n hx hb dX9_wordHere_13 rfl (lv_at hl 0 rfl) ?_
    have ttlj_29117745638302835 := tlj_29117745638302835
    refine lv_ldc2 (v := 29117745638302835) hx hb hown (hts (.constantLong RX9 159 (29117745638302835)) (List.mem_of_getElem? (i := 2) rfl)) dX9_wordHere_14 ?_
    refine tVI (As := [.long 29117745638302835]) (rest := []) (i := 148) ⟨hx, hb, hml, hown, hts⟩ hK hE hP hD hS hA hAB (s_X9_isWord_0 l B0 adK adV D cy ad fr0 c_text m_taped m_size m_faultKind m_faultPlace m_at m_end m_token m_number m_name c_points c_strands c_units c_told c_ruleFrom c_ruleTo c_code c_eWhat c_eSign m_bank m_rb m_codes m_within m_piled m_unitsInRule m_askStrand m_askTied m_thoughtClaim m_thoughtNeed m_thoughtAll c_roundOf m_acts m_undone m_laid m_firstMove m_seens m_time m_waysNow m_fitting f hT (29117745638302835 : Int64) _) (cwV 1 hts gX9_wordHere_X9_isWord rfl rfl rfl (by decide +kernel) ⟨Nat.le_of_ble_eq_true rfl, Nat.le_of_ble_eq_true rfl⟩) (by decide) 9 e16 rfl rfl hl.1 rfl (Nat.le_of_ble_eq_true rfl) dX9_wordHere_17 ⟨Nat.le_of_ble_eq_true rfl, Nat.le_of_ble_eq_true rfl⟩ (fun r g H locs hw hP hD hS => ?_)
    obtain ⟨hrs, rfl⟩ := hw
    obtain ⟨x21, rfl⟩ : ∃ q, q = r := ⟨_, rfl⟩
    rcases hrs with ⟨rfl, h22, h23⟩ | ⟨rfl, h24⟩
    · refine lv_if_eq (tgt := 26) hx hb dX9_wordHere_20 (by decide) (fun c => absurd c (by decide)) (fun _ => ?_)
      refine lv_bipush (v := 103) hx hb dX9_wordHere_23 (by decide) ?_
      have ttl_103 := tl_103
      exact tI hx hb hr hlk rfl hP hS ⟨(Or.inl ⟨by omega, by omega⟩), rfl⟩ dX9_wordHere_25
    · refine lv_if_eq (tgt := 26) hx hb dX9_wordHere_20 (by decide) (fun _ => ?_) (fun c => absurd (by decide) c)
      refine lv_aload_n hx hb dX9_wordHere_26 rfl (lv_at hl 0 rfl) ?_
      have ttlj_108256569877870 := tlj_108256569877870
      refine lv_ldc2 (v := 108256569877870) hx hb hown (hts (.constantLong RX9 161 (108256569877870)) (List.mem_of_getElem? (i := 3) rfl)) dX9_wordHere_27 ?_
      refine tVI (As := [.long 108256569877870]) (rest := []) (i := 148) ⟨hx, hb, hml, hown, hts⟩ hK hE hP hD hS hA hAB (s_X9_isWord_0 l B0 adK adV D cy ad fr0 c_text m_taped m_size m_faultKind m_faultPlace m_at m_end m_token m_number m_name c_points c_strands c_units c_told c_ruleFrom c_ruleTo c_code c_eWhat c_eSign m_bank m_rb m_codes m_within m_piled m_unitsInRule m_askStrand m_askTied m_thoughtClaim m_thoughtNeed m_thoughtAll c_roundOf m_acts m_undone m_laid m_firstMove m_seens m_time m_waysNow m_fitting f hT (108256569877870 : Int64) _) (cwV 1 hts gX9_wordHere_X9_isWord rfl rfl rfl (by decide +kernel) ⟨Nat.le_of_ble_eq_true rfl, Nat.le_of_ble_eq_true rfl⟩) (by decide) 9 e16 rfl rfl hl.1 rfl (Nat.le_of_ble_eq_true rfl) dX9_wordHere_30 ⟨Nat.le_of_ble_eq_true rfl, Nat.le_of_ble_eq_true rfl⟩ (fun r g H locs hw hP hD hS => ?_)
      obtain ⟨hrs, rfl⟩ := hw
      obtain ⟨x25, rfl⟩ : ∃ q, q = r := ⟨_, rfl⟩
      rcases hrs with ⟨rfl, h26, h27⟩ | ⟨rfl, h28⟩
      · refine lv_if_eq (tgt := 39) hx hb dX9_wordHere_33 (by decide) (fun c => absurd c (by decide)) (fun _ => ?_)
        refine lv_bipush (v := 98) hx hb dX9_wordHere_36 (by decide) ?_
        have ttl_98 := tl_98
        exact tI hx hb hr hlk rfl hP hS ⟨(Or.inl ⟨by omega, by omega⟩), rfl⟩ dX9_wordHere_38
      · refine lv_if_eq (tgt := 39) hx hb dX9_wordHere_33 (by decide) (fun _ => ?_) (fun c => absurd (by decide) c)
        refine lv_aload_n hx hb dX9_wordHere_39 rfl (lv_at hl 0 rfl) ?_
        have ttlj_474147546227 := tlj_474147546227
        refine lv_ldc2 (v := 474147546227) hx hb hown (hts (.constantLong RX9 147 (474147546227)) (List.mem_of_getElem? (i := 4) rfl)) dX9_wordHere_40 ?_
        refine tVI (As := [.long 474147546227]) (rest := []) (i := 148) ⟨hx, hb, hml, hown, hts⟩ hK hE hP hD hS hA hAB (s_X9_isWord_0 l B0 adK adV D cy ad fr0 c_text m_taped m_size m_faultKind m_faultPlace m_at m_end m_token m_number m_name c_points c_strands c_units c_told c_ruleFrom c_ruleTo c_code c_eWhat c_eSign m_bank m_rb m_codes m_within m_piled m_unitsInRule m_askStrand m_askTied m_thoughtClaim m_thoughtNeed m_thoughtAll c_roundOf m_acts m_undone m_laid m_firstMove m_seens m_time m_waysNow m_fitting f hT (474147546227 : Int64) _) (cwV 1 hts gX9_wordHere_X9_isWord rfl rfl rfl (by decide +kernel) ⟨Nat.le_of_ble_eq_true rfl, Nat.le_of_ble_eq_true rfl⟩) (by decide) 9 e16 rfl rfl hl.1 rfl (Nat.le_of_ble_eq_true rfl) dX9_wordHere_43 ⟨Nat.le_of_ble_eq_true rfl, Nat.le_of_ble_eq_true rfl⟩ (fun r g H locs hw hP hD hS => ?_)
        obtain ⟨hrs, rfl⟩ := hw
        obtain ⟨x29, rfl⟩ : ∃ q, q = r := ⟨_, rfl⟩
        rcases hrs with ⟨rfl, h30, h31⟩ | ⟨rfl, h32⟩
        · refine lv_if_eq (tgt := 52) hx hb dX9_wordHere_46 (by decide) (fun c => absurd c (by decide)) (fun _ => ?_)
          refine lv_bipush (v := 101) hx hb dX9_wordHere_49 (by decide) ?_
          have ttl_101 := tl_101
          exact tI hx hb hr hlk rfl hP hS ⟨(Or.inl ⟨by omega, by omega⟩), rfl⟩ dX9_wordHere_51
        · refine lv_if_eq (tgt := 52) hx hb dX9_wordHere_46 (by decide) (fun _ => ?_) (fun c => absurd (by decide) c)
          refine lv_aload_n hx hb dX9_wordHere_52 rfl (lv_at hl 0 rfl) ?_
          have ttlj_6578553 := tlj_6578553
          refine lv_ldc2 (v := 6578553) hx hb hown (hts (.constantLong RX9 163 (6578553)) (List.mem_of_getElem? (i := 5) rfl)) dX9_wordHere_53 ?_
          refine tVI (As := [.long 6578553]) (rest := []) (i := 148) ⟨hx, hb, hml, hown, hts⟩ hK hE hP hD hS hA hAB (s_X9_isWord_0 l B0 adK adV D cy ad fr0 c_text m_taped m_size m_faultKind m_faultPlace m_at m_end m_token m_number m_name c_points c_strands c_units c_told c_ruleFrom c_ruleTo c_code c_eWhat c_eSign m_bank m_rb m_codes m_within m_piled m_unitsInRule m_askStrand m_askTied m_thoughtClaim m_thoughtNeed m_thoughtAll c_roundOf m_acts m_undone m_laid m_firstMove m_seens m_time m_waysNow m_fitting f hT (6578553 : Int64) _) (cwV 1 hts gX9_wordHere_X9_isWord rfl rfl rfl (by decide +kernel) ⟨Nat.le_of_ble_eq_true rfl, Nat.le_of_ble_eq_true rfl⟩) (by decide) 9 e16 rfl rfl hl.1 rfl (Nat.le_of_ble_eq_true rfl) dX9_wordHere_56 ⟨Nat.le_of_ble_eq_true rfl, Nat.le_of_ble_eq_true rfl⟩ (fun r g H locs hw hP hD hS => ?_)
          obtain ⟨hrs, rfl⟩ := hw
          obtain ⟨x33, rfl⟩ : ∃ q, q = r := ⟨_, rfl⟩
          rcases hrs with ⟨rfl, h34, h35⟩ | ⟨rfl, h36⟩
          · refine lv_if_eq (tgt := 67) hx hb dX9_wordHere_59 (by decide) (fun c => absurd c (by decide)) (fun _ => ?_)
            refine lv_bipush (v := 100) hx hb dX9_wordHere_62 (by decide) ?_
            refine lv_goto (tgt := 68) hx hb dX9_wordHere_64 (by decide) ?_
            have ttl_100 := tl_100
            exact tI hx hb hr hlk rfl hP hS ⟨(Or.inl ⟨by omega, by omega⟩), rfl⟩ dX9_wordHere_68
          · refine lv_if_eq (tgt := 67) hx hb dX9_wordHere_59 (by decide) (fun _ => ?_) (fun c => absurd (by decide) c)
            refine lv_iconst (v := 0) hx hb dX9_wordHere_67 (by decide) ?_
            have ttl_0 := tl_0
            exact tI hx hb hr hlk rfl hP hS ⟨(Or.inr rfl), rfl⟩ dX9_wordHere_68
set_option maxHeartbeats 4000000 in
set_option maxRecDepth 100000 in
theorem s_X9_unit_0 (l : Launch) (B0 : Nat) (adK adV : Nat → Nat) (D : va_G) (cy : Nat → ClassId) (ad : Nat → Nat) (fr0 : Nat → va_E) (c_text : Nat → Int32) (m_taped : Int32) (m_size : Int32) (m_faultKind : Int32) (m_faultPlace : Int32) (m_at : Int32) (m_end : Int32) (m_token : Int32) (m_number : Int32) (m_name : Int64) (c_points : Nat → Int32) (c_strands : Nat → Int32) (c_units : Nat → Int32) (c_told : Nat → Int32) (c_ruleFrom : Nat → Int32) (c_ruleTo : Nat → Int32) (c_code : Nat → Int32) (c_eWhat : Nat → Int32) (c_eSign : Nat → Int32) (m_bank : Int32) (m_rb : Int32) (m_codes : Int32) (m_within : Int32) (m_piled : Int32) (m_unitsInRule : Int32) (m_askStrand : Int32) (m_askTied : Int32) (m_thoughtClaim : Int32) (m_thoughtNeed : Int32) (m_thoughtAll : Int32) (c_roundOf : Nat → Int32) (m_acts : Int32) (m_undone : Int32) (m_laid : Int32) (m_firstMove : Int32) (m_seens : Int32) (m_time : Int32) (m_waysNow : Int32) (m_fitting : Int32) (f : Nat → va_E) (hT : TYm ad cy fr0 c_text m_taped m_size m_faultKind m_faultPlace m_at m_end m_token m_number m_name c_points c_strands c_units c_told c_ruleFrom c_ruleTo c_code c_eWhat c_eSign m_bank m_rb m_codes m_within m_piled m_unitsInRule m_askStrand m_askTied m_thoughtClaim m_thoughtNeed m_thoughtAll c_roundOf m_acts m_undone m_laid m_firstMove m_seens m_time m_waysNow m_fitting f) (hph_m_end : 0 ≤ m_end.toInt ∧ m_end.toInt ≤ 1600) (hh0 : ((m_token.toInt = 0 ∧ m_at.toInt = m_size.toInt ∧ m_end.toInt = m_size.toInt) ∨ (1 ≤ m_token.toInt ∧ m_at.toInt < m_end.toInt ∧ m_end.toInt ≤ m_size.toInt))) (hh1 : (0 ≤ m_within.toInt ∧ m_within.toInt ≤ 7 ∧ m_within.toInt = cQZ c_eWhat m_piled.toInt)) (hh2 : (0 ≤ m_unitsInRule.toInt ∧ m_unitsInRule.toInt ≤ 30)) (hh3 : ((c_ruleFrom m_rb.toNatClampNeg).toInt = 560 * m_rb.toInt ∧ 0 ≤ m_rb.toInt ∧ m_rb.toInt ≤ 1 ∧ (c_ruleFrom m_rb.toNatClampNeg).toInt ≤ m_codes.toInt)) (hh4 : (dpZ c_code (c_ruleFrom m_rb.toNatClampNeg) m_codes.toInt ≤ m_unitsInRule.toInt ∧ 0 ≤ cPZ c_eWhat m_piled.toInt)) (hh5 : (m_piled.toInt ≤ 1 + m_within.toInt + cPZ c_eWhat m_piled.toInt ∧ 0 ≤ m_piled.toInt)) (hh6 : (cPZ c_eWhat m_piled.toInt ≤ dpZ c_code (c_ruleFrom m_rb.toNatClampNeg) m_codes.toInt ∧ m_codes.toInt - (c_ruleFrom m_rb.toNatClampNeg).toInt + dpZ c_code (c_ruleFrom m_rb.toNatClampNeg) m_codes.toInt ≤ 16 * m_unitsInRule.toInt + m_within.toInt)) (hh7 : 1 ≤ m_piled.toInt) (hSG : SGp c_eWhat c_eSign m_piled.toInt) (hOK : okcZ c_code (c_ruleFrom m_rb.toNatClampNeg) m_codes.toInt) (sz : Nat) : TtI l yX9_unit wsX9_unit 2 44 [.ref (ad 148)] B0 adK adV D cy ad f sz (fun (r : Int32) (g : Nat → va_E) => ((r = 1) ∨ (r = 0)) ∧ (∃ (m_faultKind' : Int32) (m_faultPlace' : Int32) (m_at' : Int32) (m_end' : Int32) (m_token' : Int32) (m_number' : Int32) (m_name' : Int64) (c_units' : Nat → Int32) (c_code' : Nat → Int32) (c_eWhat' : Nat → Int32) (c_eSign' : Nat → Int32) (m_codes' : Int32) (m_within' : Int32) (m_piled' : Int32) (m_unitsInRule' : Int32), TYm ad cy fr0 c_text m_taped m_size m_faultKind' m_faultPlace' m_at' m_end' m_token' m_number' m_name' c_points c_strands c_units' c_told c_ruleFrom c_ruleTo c_code' c_eWhat' c_eSign' m_bank m_rb m_codes' m_within' m_piled' m_unitsInRule' m_askStrand m_askTied m_thoughtClaim m_thoughtNeed m_thoughtAll c_roundOf m_acts m_undone m_laid m_firstMove m_seens m_time m_waysNow m_fitting g ∧ (0 ≤ m_end'.toInt ∧ m_end'.toInt ≤ 1600) ∧ (1 ≤ m_piled'.toInt ∧ m_piled'.toInt ≤ 90) ∧ ((m_token'.toInt = 0 ∧ m_at'.toInt = m_size.toInt ∧ m_end'.toInt = m_size.toInt) ∨ (1 ≤ m_token'.toInt ∧ m_at'.toInt < m_end'.toInt ∧ m_end'.toInt ≤ m_size.toInt)) ∧ m_at.toInt ≤ m_at'.toInt ∧ (0 ≤ m_within'.toInt ∧ m_within'.toInt ≤ 7 ∧ m_within'.toInt = cQZ c_eWhat' m_piled'.toInt) ∧ (0 ≤ m_unitsInRule'.toInt ∧ m_unitsInRule'.toInt ≤ 30) ∧ ((c_ruleFrom m_rb.toNatClampNeg).toInt = 560 * m_rb.toInt ∧ 0 ≤ m_rb.toInt ∧ m_rb.toInt ≤ 1 ∧ (c_ruleFrom m_rb.toNatClampNeg).toInt ≤ m_codes'.toInt) ∧ (dpZ c_code' (c_ruleFrom m_rb.toNatClampNeg) m_codes'.toInt ≤ m_unitsInRule'.toInt ∧ 0 ≤ cPZ c_eWhat' m_piled'.toInt) ∧ (m_piled'.toInt ≤ 1 + m_within'.toInt + cPZ c_eWhat' m_piled'.toInt ∧ 0 ≤ m_piled'.toInt) ∧ (r.toInt = 1 → (cPZ c_eWhat' m_piled'.toInt ≤ dpZ c_code' (c_ruleFrom m_rb.toNatClampNeg) m_codes'.toInt ∧ m_codes'.toInt - (c_ruleFrom m_rb.toNatClampNeg).toInt + dpZ c_code' (c_ruleFrom m_rb.toNatClampNeg) m_codes'.toInt ≤ 16 * m_unitsInRule'.toInt + m_within'.toInt)) ∧ (r.toInt = 0 → (cPZ c_eWhat' m_piled'.toInt + 1 ≤ dpZ c_code' (c_ruleFrom m_rb.toNatClampNeg) m_codes'.toInt ∧ m_codes'.toInt - (c_ruleFrom m_rb.toNatClampNeg).toInt + dpZ c_code' (c_ruleFrom m_rb.toNatClampNeg) m_codes'.toInt + m_within'.toInt ≤ 16 * m_unitsInRule'.toInt)) ∧ 1 ≤ m_piled'.toInt ∧ (1 ≤ m_faultKind'.toInt ∨ (m_at.toInt < m_at'.toInt ∧ m_piled'.toInt ≤ m_piled.toInt + 1)) ∧ SGp c_eWhat' c_eSign' m_piled'.toInt ∧ okcZ c_code' (c_ruleFrom m_rb.toNatClampNeg) m_codes'.toInt ∧ FrC c_code c_code' m_rb)) := by
  refine TtI.of (cc := cX9_unit) (maxL := 7) (ty := .boolean) (own := RX9) (by decide) rfl (Nat.le_of_ble_eq_true rfl) rfl ?_
  intro p e s m below meth c A ls hx hb hr hml hts hown hlk hK hE hP hD hS hA hAB hl
  have hl : lv_has ls 7 [(0, .ref (ad 148))] := hl
  refine st0 (fun H locs hP hS => ?_) hP hS
  have j263 : ∀ (f : Nat → va_E) (H : Heap) (locs : List Loc) (ls : Array Slot) (v263_l6 : Int32) (v263_l5 : Int32) (v263_l4 : Int32) (v263_l3 : Int32) (v263_l2 : Int32) (v263_l1 : Int32) (v263_s1 : Int32) (v263_p_m_faultKind : Int32) (v263_p_m_faultPlace : Int32) (v263_p_m_at : Int32) (v263_p_m_end : Int32) (v263_p_m_token : Int32) (v263_p_m_number : Int32) (v263_p_m_name : Int64) (v263_p_c_units : Nat → Int32) (v263_p_m_unitsInRule : Int32), (0 ≤ v263_l5.toInt ∧ v263_l5.toInt ≤ 1) → (0 ≤ v263_l4.toInt ∧ v263_l4.toInt ≤ 122) → (0 ≤ v263_l3.toInt ∧ v263_l3.toInt ≤ 0) → (0 ≤ v263_l2.toInt ∧ v263_l2.toInt ≤ 0) → (0 ≤ v263_l1.toInt ∧ v263_l1.toInt ≤ 1) → (1 ≤ v263_s1.toInt ∧ v263_s1.toInt ≤ 122) → (0 ≤ v263_p_m_faultKind.toInt ∧ v263_p_m_faultKind.toInt ≤ 0) → (0 ≤ v263_p_m_end.toInt ∧ v263_p_m_end.toInt ≤ 1600) → (1 ≤ m_piled.toInt ∧ m_piled.toInt ≤ 90) → (0 ≤ v263_p_m_unitsInRule.toInt ∧ v263_p_m_unitsInRule.toInt ≤ 31) → ((97 ≤ v263_s1.toInt ∧ v263_s1.toInt ≤ 122)) → (v263_p_m_unitsInRule.toInt = m_unitsInRule.toInt + 1) → (m_unitsInRule.toInt ≤ 29) → (m_at.toInt < v263_p_m_at.toInt) → (FrC c_code c_code m_rb) → (((v263_p_m_token.toInt = 0 ∧ v263_p_m_at.toInt = m_size.toInt ∧ v263_p_m_end.toInt = m_size.toInt) ∨ (1 ≤ v263_p_m_token.toInt ∧ v263_p_m_at.toInt < v263_p_m_end.toInt ∧ v263_p_m_end.toInt ≤ m_size.toInt))) → (m_at.toInt ≤ v263_p_m_at.toInt) → (TYm ad cy fr0 c_text m_taped m_size v263_p_m_faultKind v263_p_m_faultPlace v263_p_m_at v263_p_m_end v263_p_m_token v263_p_m_number v263_p_m_name c_points c_strands v263_p_c_units c_told c_ruleFrom c_ruleTo c_code c_eWhat c_eSign m_bank m_rb m_codes m_within m_piled v263_p_m_unitsInRule m_askStrand m_askTied m_thoughtClaim m_thoughtNeed m_thoughtAll c_roundOf m_acts m_undone m_laid m_firstMove m_seens m_time m_waysNow m_fitting f) → (va_P D vwCl (wl ad f) H) → (va_D A (wl ad f)) → (va_S A s.heap H locs) → (lv_has ls 7 [(6, .int v263_l6), (5, .int v263_l5), (4, .int v263_l4), (3, .int v263_l3), (2, .int v263_l2), (1, .int v263_l1), (0, .ref (ad 148))]) → W p l e (rmO 2 44 0 0) s m ([.ref (ad 148)] : List Value).toArray below meth c H locs 0 0 (MQ below (va_Qi (fun (r : Int32) (g : Nat → va_E) => ((r = 1) ∨ (r = 0)) ∧ (∃ (m_faultKind' : Int32) (m_faultPlace' : Int32) (m_at' : Int32) (m_end' : Int32) (m_token' : Int32) (m_number' : Int32) (m_name' : Int64) (c_units' : Nat → Int32) (c_code' : Nat → Int32) (c_eWhat' : Nat → Int32) (c_eSign' : Nat → Int32) (m_codes' : Int32) (m_within' : Int32) (m_piled' : Int32) (m_unitsInRule' : Int32), TYm ad cy fr0 c_text m_taped m_size m_faultKind' m_faultPlace' m_at' m_end' m_token' m_number' m_name' c_points c_strands c_units' c_told c_ruleFrom c_ruleTo c_code' c_eWhat' c_eSign' m_bank m_rb m_codes' m_within' m_piled' m_unitsInRule' m_askStrand m_askTied m_thoughtClaim m_thoughtNeed m_thoughtAll c_roundOf m_acts m_undone m_laid m_firstMove m_seens m_time m_waysNow m_fitting g ∧ (0 ≤ m_end'.toInt ∧ m_end'.toInt ≤ 1600) ∧ (1 ≤ m_piled'.toInt ∧ m_piled'.toInt ≤ 90) ∧ ((m_token'.toInt = 0 ∧ m_at'.toInt = m_size.toInt ∧ m_end'.toInt = m_size.toInt) ∨ (1 ≤ m_token'.toInt ∧ m_at'.toInt < m_end'.toInt ∧ m_end'.toInt ≤ m_size.toInt)) ∧ m_at.toInt ≤ m_at'.toInt ∧ (0 ≤ m_within'.toInt ∧ m_within'.toInt ≤ 7 ∧ m_within'.toInt = cQZ c_eWhat' m_piled'.toInt) ∧ (0 ≤ m_unitsInRule'.toInt ∧ m_unitsInRule'.toInt ≤ 30) ∧ ((c_ruleFrom m_rb.toNatClampNeg).toInt = 560 * m_rb.toInt ∧ 0 ≤ m_rb.toInt ∧ m_rb.toInt ≤ 1 ∧ (c_ruleFrom m_rb.toNatClampNeg).toInt ≤ m_codes'.toInt) ∧ (dpZ c_code' (c_ruleFrom m_rb.toNatClampNeg) m_codes'.toInt ≤ m_unitsInRule'.toInt ∧ 0 ≤ cPZ c_eWhat' m_piled'.toInt) ∧ (m_piled'.toInt ≤ 1 + m_within'.toInt + cPZ c_eWhat' m_piled'.toInt ∧ 0 ≤ m_piled'.toInt) ∧ (r.toInt = 1 → (cPZ c_eWhat' m_piled'.toInt ≤ dpZ c_code' (c_ruleFrom m_rb.toNatClampNeg) m_codes'.toInt ∧ m_codes'.toInt - (c_ruleFrom m_rb.toNatClampNeg).toInt + dpZ c_code' (c_ruleFrom m_rb.toNatClampNeg) m_codes'.toInt ≤ 16 * m_unitsInRule'.toInt + m_within'.toInt)) ∧ (r.toInt = 0 → (cPZ c_eWhat' m_piled'.toInt + 1 ≤ dpZ c_code' (c_ruleFrom m_rb.toNatClampNeg) m_codes'.toInt ∧ m_codes'.toInt - (c_ruleFrom m_rb.toNatClampNeg).toInt + dpZ c_code' (c_ruleFrom m_rb.toNatClampNeg) m_codes'.toInt + m_within'.toInt ≤ 16 * m_unitsInRule'.toInt)) ∧ 1 ≤ m_piled'.toInt ∧ (1 ≤ m_faultKind'.toInt ∨ (m_at.toInt < m_at'.toInt ∧ m_piled'.toInt ≤ m_piled.toInt + 1)) ∧ SGp c_eWhat' c_eSign' m_piled'.toInt ∧ okcZ c_code' (c_ruleFrom m_rb.toNatClampNeg) m_codes'.toInt ∧ FrC c_code c_code' m_rb)) (fun g t => PstT D ad g t) A) ([.ref (ad 148)] : List Value).toArray s 0 0 A) (F0 m 263 ls [.int v263_s1, .ref (ad 148)]) := by
    intro f H locs ls v263_l6 v263_l5 v263_l4 v263_l3 v263_l2 v263_l1 v263_s1 v263_p_m_faultKind v263_p_m_faultPlace v263_p_m_at v263_p_m_end v263_p_m_token v263_p_m_number v263_p_m_name v263_p_c_units v263_p_m_unitsInRule hv263_l5 hv263_l4 hv263_l3 hv263_l2 hv263_l1 hv263_s1 hv263_p_m_faultKind hv263_p_m_end hv263_p_m_piled hv263_p_m_unitsInRule hJ263_0 hJ263_1 hJ263_2 hJ263_3 hFr hJ263_5 hJ263_6 hT hP hD hS hl
    refine lv_iload hx hb dX9_unit_263 (lv_at hl 0 rfl) ?_
    obtain ⟨e16, h1, h2, h3, h4, h5, h6, h7, h8, h9, h10, h11, h12, h13, h14, h15⟩ := (show okX9 ad m_taped m_size v263_p_m_faultKind v263_p_m_faultPlace v263_p_m_at v263_p_m_end v263_p_m_token v263_p_m_number v263_p_m_name m_bank m_rb m_codes m_within m_piled v263_p_m_unitsInRule m_askStrand m_askTied m_thoughtClaim m_thoughtNeed m_thoughtAll m_acts m_undone m_laid m_firstMove m_seens m_time m_waysNow m_fitting 148 (f 148) from hT.1 148 (by decide))
    refine tVV (As := [.int v263_s1, .int v263_l6]) (rest := []) (i := 148) ⟨hx, hb, hml, hown, hts⟩ hK hE hP hD hS hA hAB (s_X9_emit_0 l B0 adK adV D cy ad fr0 c_text m_taped m_size v263_p_m_faultKind v263_p_m_faultPlace v263_p_m_at v263_p_m_end v263_p_m_token v263_p_m_number v263_p_m_name c_points c_strands v263_p_c_units c_told c_ruleFrom c_ruleTo c_code c_eWhat c_eSign m_bank m_rb m_codes m_within m_piled v263_p_m_unitsInRule m_askStrand m_askTied m_thoughtClaim m_thoughtNeed m_thoughtAll c_roundOf m_acts m_undone m_laid m_firstMove m_seens m_time m_waysNow m_fitting f hT v263_s1 v263_l6 (by omega) _) (cwV 2 hts gX9_unit_X9_emit rfl rfl rfl (by decide +kernel) ⟨Nat.le_of_ble_eq_true rfl, Nat.le_of_ble_eq_true rfl⟩) (by decide) 9 e16 rfl rfl hl.1 rfl (Nat.le_of_ble_eq_true rfl) dX9_unit_265 ⟨Nat.le_of_ble_eq_true rfl, Nat.le_of_ble_eq_true rfl⟩ (fun f H locs hw hP hD hS => ?_)
    obtain ⟨hrs, y17, x18, hT, h19, h20, hcd⟩ := hw
    have hdp := dpZ_push (cd := c_code) (cd' := y17) (a := (c_ruleFrom m_rb.toNatClampNeg)) (k := m_codes) (z := x18.toInt) hcd (by omega) (by omega) (by omega)
    have hOK := okcZ_push (cd := c_code) (cd' := y17) (a := (c_ruleFrom m_rb.toNatClampNeg)) (k := m_codes) (z := x18.toInt) hOK hcd (by omega) (by omega) (by omega) (by omega)
    have hFr := FrC_up (cd1 := c_code) (k := m_codes) hFr hcd (by omega) (by omega) (by omega)
    refine lv_iconst (v := 0) hx hb dX9_unit_268 (by decide) ?_
    have ttl_0 := tl_0
    exact tI hx hb hr hlk rfl hP hS ⟨(Or.inr rfl), ⟨v263_p_m_faultKind, v263_p_m_faultPlace, v263_p_m_at, v263_p_m_end, v263_p_m_token, v263_p_m_number, v263_p_m_name, v263_p_c_units, y17, c_eWhat, c_eSign, x18, m_within, m_piled, v263_p_m_unitsInRule, hT, by omega, by omega, by omega, by omega, by omega, by omega, by omega, by omega, by omega, by omega, by omega, by omega, by omega, hSG, hOK, hFr⟩⟩ dX9_unit_269
  have j233 : ∀ (f : Nat → va_E) (H : Heap) (locs : List Loc) (ls : Array Slot) (v233_l6 : Int32) (v233_l5 : Int32) (v233_l4 : Int32) (v233_l3 : Int32) (v233_l2 : Int32) (v233_l1 : Int32) (v233_s1 : Int32) (v233_p_m_faultKind : Int32) (v233_p_m_faultPlace : Int32) (v233_p_m_at : Int32) (v233_p_m_end : Int32) (v233_p_m_token : Int32) (v233_p_m_number : Int32) (v233_p_m_name : Int64) (v233_p_c_units : Nat → Int32) (v233_p_m_unitsInRule : Int32), (0 ≤ v233_l5.toInt ∧ v233_l5.toInt ≤ 1) → (0 ≤ v233_l4.toInt ∧ v233_l4.toInt ≤ 122) → (0 ≤ v233_l3.toInt ∧ v233_l3.toInt ≤ 1) → (0 ≤ v233_l2.toInt ∧ v233_l2.toInt ≤ 1) → (0 ≤ v233_l1.toInt ∧ v233_l1.toInt ≤ 1) → (3 ≤ v233_s1.toInt ∧ v233_s1.toInt ≤ 7) → (0 ≤ v233_p_m_faultKind.toInt ∧ v233_p_m_faultKind.toInt ≤ 0) → (0 ≤ v233_p_m_end.toInt ∧ v233_p_m_end.toInt ≤ 1600) → (1 ≤ m_piled.toInt ∧ m_piled.toInt ≤ 90) → (0 ≤ v233_p_m_unitsInRule.toInt ∧ v233_p_m_unitsInRule.toInt ≤ 31) → ((v233_l2.toInt = 1 ∨ v233_l3.toInt = 1)) → (m_within.toInt ≤ 6) → (v233_p_m_unitsInRule.toInt + v233_l2.toInt = m_unitsInRule.toInt + 1) → ((v233_l2.toInt = 1 ∨ m_unitsInRule.toInt ≤ 29)) → (m_at.toInt < v233_p_m_at.toInt) → ((v233_s1.toInt = 3 ∨ v233_s1.toInt = 7)) → (FrC c_code c_code m_rb) → (((v233_p_m_token.toInt = 0 ∧ v233_p_m_at.toInt = m_size.toInt ∧ v233_p_m_end.toInt = m_size.toInt) ∨ (1 ≤ v233_p_m_token.toInt ∧ v233_p_m_at.toInt < v233_p_m_end.toInt ∧ v233_p_m_end.toInt ≤ m_size.toInt))) → (m_at.toInt ≤ v233_p_m_at.toInt) → (TYm ad cy fr0 c_text m_taped m_size v233_p_m_faultKind v233_p_m_faultPlace v233_p_m_at v233_p_m_end v233_p_m_token v233_p_m_number v233_p_m_name c_points c_strands v233_p_c_units c_told c_ruleFrom c_ruleTo c_code c_eWhat c_eSign m_bank m_rb m_codes m_within m_piled v233_p_m_unitsInRule m_askStrand m_askTied m_thoughtClaim m_thoughtNeed m_thoughtAll c_roundOf m_acts m_undone m_laid m_firstMove m_seens m_time m_waysNow m_fitting f) → (va_P D vwCl (wl ad f) H) → (va_D A (wl ad f)) → (va_S A s.heap H locs) → (lv_has ls 7 [(6, .int v233_l6), (5, .int v233_l5), (4, .int v233_l4), (3, .int v233_l3), (2, .int v233_l2), (1, .int v233_l1), (0, .ref (ad 148))]) → W p l e (rmO 2 44 0 0) s m ([.ref (ad 148)] : List Value).toArray below meth c H locs 0 0 (MQ below (va_Qi (fun (r : Int32) (g : Nat → va_E) => ((r = 1) ∨ (r = 0)) ∧ (∃ (m_faultKind' : Int32) (m_faultPlace' : Int32) (m_at' : Int32) (m_end' : Int32) (m_token' : Int32) (m_number' : Int32) (m_name' : Int64) (c_units' : Nat → Int32) (c_code' : Nat → Int32) (c_eWhat' : Nat → Int32) (c_eSign' : Nat → Int32) (m_codes' : Int32) (m_within' : Int32) (m_piled' : Int32) (m_unitsInRule' : Int32), TYm ad cy fr0 c_text m_taped m_size m_faultKind' m_faultPlace' m_at' m_end' m_token' m_number' m_name' c_points c_strands c_units' c_told c_ruleFrom c_ruleTo c_code' c_eWhat' c_eSign' m_bank m_rb m_codes' m_within' m_piled' m_unitsInRule' m_askStrand m_askTied m_thoughtClaim m_thoughtNeed m_thoughtAll c_roundOf m_acts m_undone m_laid m_firstMove m_seens m_time m_waysNow m_fitting g ∧ (0 ≤ m_end'.toInt ∧ m_end'.toInt ≤ 1600) ∧ (1 ≤ m_piled'.toInt ∧ m_piled'.toInt ≤ 90) ∧ ((m_token'.toInt = 0 ∧ m_at'.toInt = m_size.toInt ∧ m_end'.toInt = m_size.toInt) ∨ (1 ≤ m_token'.toInt ∧ m_at'.toInt < m_end'.toInt ∧ m_end'.toInt ≤ m_size.toInt)) ∧ m_at.toInt ≤ m_at'.toInt ∧ (0 ≤ m_within'.toInt ∧ m_within'.toInt ≤ 7 ∧ m_within'.toInt = cQZ c_eWhat' m_piled'.toInt) ∧ (0 ≤ m_unitsInRule'.toInt ∧ m_unitsInRule'.toInt ≤ 30) ∧ ((c_ruleFrom m_rb.toNatClampNeg).toInt = 560 * m_rb.toInt ∧ 0 ≤ m_rb.toInt ∧ m_rb.toInt ≤ 1 ∧ (c_ruleFrom m_rb.toNatClampNeg).toInt ≤ m_codes'.toInt) ∧ (dpZ c_code' (c_ruleFrom m_rb.toNatClampNeg) m_codes'.toInt ≤ m_unitsInRule'.toInt ∧ 0 ≤ cPZ c_eWhat' m_piled'.toInt) ∧ (m_piled'.toInt ≤ 1 + m_within'.toInt + cPZ c_eWhat' m_piled'.toInt ∧ 0 ≤ m_piled'.toInt) ∧ (r.toInt = 1 → (cPZ c_eWhat' m_piled'.toInt ≤ dpZ c_code' (c_ruleFrom m_rb.toNatClampNeg) m_codes'.toInt ∧ m_codes'.toInt - (c_ruleFrom m_rb.toNatClampNeg).toInt + dpZ c_code' (c_ruleFrom m_rb.toNatClampNeg) m_codes'.toInt ≤ 16 * m_unitsInRule'.toInt + m_within'.toInt)) ∧ (r.toInt = 0 → (cPZ c_eWhat' m_piled'.toInt + 1 ≤ dpZ c_code' (c_ruleFrom m_rb.toNatClampNeg) m_codes'.toInt ∧ m_codes'.toInt - (c_ruleFrom m_rb.toNatClampNeg).toInt + dpZ c_code' (c_ruleFrom m_rb.toNatClampNeg) m_codes'.toInt + m_within'.toInt ≤ 16 * m_unitsInRule'.toInt)) ∧ 1 ≤ m_piled'.toInt ∧ (1 ≤ m_faultKind'.toInt ∨ (m_at.toInt < m_at'.toInt ∧ m_piled'.toInt ≤ m_piled.toInt + 1)) ∧ SGp c_eWhat' c_eSign' m_piled'.toInt ∧ okcZ c_code' (c_ruleFrom m_rb.toNatClampNeg) m_codes'.toInt ∧ FrC c_code c_code' m_rb)) (fun g t => PstT D ad g t) A) ([.ref (ad 148)] : List Value).toArray s 0 0 A) (F0 m 233 ls [.int v233_s1, .ref (ad 148)]) := by
    intro f H locs ls v233_l6 v233_l5 v233_l4 v233_l3 v233_l2 v233_l1 v233_s1 v233_p_m_faultKind v233_p_m_faultPlace v233_p_m_at v233_p_m_end v233_p_m_token v233_p_m_number v233_p_m_name v233_p_c_units v233_p_m_unitsInRule hv233_l5 hv233_l4 hv233_l3 hv233_l2 hv233_l1 hv233_s1 hv233_p_m_faultKind hv233_p_m_end hv233_p_m_piled hv233_p_m_unitsInRule hJ233_0 hJ233_1 hJ233_2 hJ233_3 hJ233_4 hJ233_5 hFr hJ233_7 hJ233_8 hT hP hD hS hl
    refine lv_bipush (v := 126) hx hb dX9_unit_233 (by decide) ?_
    have ttl_126 := tl_126
    obtain ⟨e36, h21, h22, h23, h24, h25, h26, h27, h28, h29, h30, h31, h32, h33, h34, h35⟩ := (show okX9 ad m_taped m_size v233_p_m_faultKind v233_p_m_faultPlace v233_p_m_at v233_p_m_end v233_p_m_token v233_p_m_number v233_p_m_name m_bank m_rb m_codes m_within m_piled v233_p_m_unitsInRule m_askStrand m_askTied m_thoughtClaim m_thoughtNeed m_thoughtAll m_acts m_undone m_laid m_firstMove m_seens m_time m_waysNow m_fitting 148 (f 148) from hT.1 148 (by decide))
    refine tVV (As := [.int v233_s1, .int 126]) (rest := []) (i := 148) ⟨hx, hb, hml, hown, hts⟩ hK hE hP hD hS hA hAB (s_X9_pushE_0 l B0 adK adV D cy ad fr0 c_text m_taped m_size v233_p_m_faultKind v233_p_m_faultPlace v233_p_m_at v233_p_m_end v233_p_m_token v233_p_m_number v233_p_m_name c_points c_strands v233_p_c_units c_told c_ruleFrom c_ruleTo c_code c_eWhat c_eSign m_bank m_rb m_codes m_within m_piled v233_p_m_unitsInRule m_askStrand m_askTied m_thoughtClaim m_thoughtNeed m_thoughtAll c_roundOf m_acts m_undone m_laid m_firstMove m_seens m_time m_waysNow m_fitting f hT v233_s1 (by omega) (126 : Int32) (by omega) (by omega) _) (cwV 2 hts gX9_unit_X9_pushE rfl rfl rfl (by decide +kernel) ⟨Nat.le_of_ble_eq_true rfl, Nat.le_of_ble_eq_true rfl⟩) (by decide) 9 e36 rfl rfl hl.1 rfl (Nat.le_of_ble_eq_true rfl) dX9_unit_235 ⟨Nat.le_of_ble_eq_true rfl, Nat.le_of_ble_eq_true rfl⟩ (fun f H locs hw hP hD hS => ?_)
    obtain ⟨hrs, y37, y38, x39, hT, h40, h41, hew, hes⟩ := hw
    have hpu := push_0 (g := c_eWhat) (g' := y37) (p := m_piled) (z := x39.toInt) hew (by omega) (by omega) (by omega)
    have hSG := SG_push (g := c_eWhat) (s := c_eSign) (p := m_piled) (z := x39.toInt) hSG hew hes (by omega) (by omega) (by omega) (by omega) (by omega) (by omega) (by omega)
    refine lv_aload_n hx hb dX9_unit_238 rfl (lv_at hl 6 rfl) ?_
    refine lv_dup hx hb dX9_unit_239 rfl ?_
    obtain ⟨e57, h42, h43, h44, h45, h46, h47, h48, h49, h50, h51, h52, h53, h54, h55, h56⟩ := (show okX9 ad m_taped m_size v233_p_m_faultKind v233_p_m_faultPlace v233_p_m_at v233_p_m_end v233_p_m_token v233_p_m_number v233_p_m_name m_bank m_rb m_codes m_within x39 v233_p_m_unitsInRule m_askStrand m_askTied m_thoughtClaim m_thoughtNeed m_thoughtAll m_acts m_undone m_laid m_firstMove m_seens m_time m_waysNow m_fitting 148 (f 148) from hT.1 148 (by decide))
    refine va_get (D := D) (cl := vwCl) (ci := 9) (v := .int m_within) (C := RX9) (T := TX9) (N := 64) hx hb hts in_X9_unit_X9 hown hK hP 148 (wl_at (by decide) e57) rfl 32 (by decide) (hts (.fieldLink RX9 288 "EightReasonsModel" "within" "I") (List.mem_of_getElem? (i := 8) rfl)) (fun _ h9 => h9) rfl dX9_unit_240 ?_
    have ha58 : 0 ≤ m_within.toInt ∧ m_within.toInt ≤ 7 := by omega
    refine lv_iconst (v := 1) hx hb dX9_unit_243 (by decide) ?_
    have ttl_1 := tl_1
    refine lv_iadd hx hb dX9_unit_244 ?_
    refine lv_topi (fun x59 ex59 => ?_)
    have hx59 := r_add ex59 (by omega) (by omega)
    refine va_put (D := D) (cl := vwCl) (ci := 9) (v := .int x59) (ty := tyX9 32) (C := RX9) (T := TX9) (N := 64) hx hb hts in_X9_unit_X9 tyX9 tyX9_ok nmX9 hown hK hP hD hS 148 (wl_at (by decide) e57) rfl 32 (by decide) (hts (.fieldLink RX9 288 "EightReasonsModel" "within" "I") (List.mem_of_getElem? (i := 8) rfl)) (fun _ h9 => h9) rfl (tyX9_ok 32 (by decide)) rfl rfl (Nat.le_of_ble_eq_true rfl) dX9_unit_245 (fun H locs hP hD hS => ?_)
    obtain ⟨f, hT, hP, hD, e60, hj61⟩ := stU (by decide) (TYm.p148 hT (show OKm ad cy c_text m_taped m_size v233_p_m_faultKind v233_p_m_faultPlace v233_p_m_at v233_p_m_end v233_p_m_token v233_p_m_number v233_p_m_name c_points c_strands v233_p_c_units c_told c_ruleFrom c_ruleTo c_code y37 y38 m_bank m_rb m_codes x59 x39 v233_p_m_unitsInRule m_askStrand m_askTied m_thoughtClaim m_thoughtNeed m_thoughtAll c_roundOf m_acts m_undone m_laid m_firstMove m_seens m_time m_waysNow m_fitting 148 _ from (show okX9 ad m_taped m_size v233_p_m_faultKind v233_p_m_faultPlace v233_p_m_at v233_p_m_end v233_p_m_token v233_p_m_number v233_p_m_name m_bank m_rb m_codes x59 x39 v233_p_m_unitsInRule m_askStrand m_askTied m_thoughtClaim m_thoughtNeed m_thoughtAll m_acts m_undone m_laid m_firstMove m_seens m_time m_waysNow m_fitting 148 _ from ⟨rfl, by omega, by omega, by omega, by omega, by omega, by omega, by omega, by omega, by omega, by omega, by omega, by omega, by omega, by omega, by omega⟩))) hP hD
    refine lv_iconst (v := 1) hx hb dX9_unit_248 (by decide) ?_
    exact tI hx hb hr hlk rfl hP hS ⟨(Or.inl rfl), ⟨v233_p_m_faultKind, v233_p_m_faultPlace, v233_p_m_at, v233_p_m_end, v233_p_m_token, v233_p_m_number, v233_p_m_name, v233_p_c_units, c_code, y37, y38, m_codes, x59, x39, v233_p_m_unitsInRule, hT, by omega, by omega, by omega, by omega, by omega, by omega, by omega, by omega, by omega, by omega, by omega, by omega, by omega, hSG, hOK, hFr⟩⟩ dX9_unit_249
  have j222 : ∀ (f : Nat → va_E) (H : Heap) (locs : List Loc) (ls : Array Slot) (v222_l6 : Int32) (v222_l5 : Int32) (v222_l4 : Int32) (v222_l3 : Int32) (v222_l2 : Int32) (v222_l1 : Int32) (v222_p_m_faultKind : Int32) (v222_p_m_faultPlace : Int32) (v222_p_m_at : Int32) (v222_p_m_end : Int32) (v222_p_m_token : Int32) (v222_p_m_number : Int32) (v222_p_m_name : Int64) (v222_p_c_units : Nat → Int32) (v222_p_m_unitsInRule : Int32), (0 ≤ v222_l5.toInt ∧ v222_l5.toInt ≤ 1) → (0 ≤ v222_l4.toInt ∧ v222_l4.toInt ≤ 122) → (0 ≤ v222_l3.toInt ∧ v222_l3.toInt ≤ 1) → (0 ≤ v222_l2.toInt ∧ v222_l2.toInt ≤ 1) → (0 ≤ v222_l1.toInt ∧ v222_l1.toInt ≤ 1) → (0 ≤ v222_p_m_faultKind.toInt ∧ v222_p_m_faultKind.toInt ≤ 0) → (0 ≤ v222_p_m_end.toInt ∧ v222_p_m_end.toInt ≤ 1600) → (1 ≤ m_piled.toInt ∧ m_piled.toInt ≤ 90) → (0 ≤ v222_p_m_unitsInRule.toInt ∧ v222_p_m_unitsInRule.toInt ≤ 31) → ((v222_l2.toInt = 1 ∨ v222_l3.toInt = 1)) → (m_within.toInt ≤ 6) → (v222_p_m_unitsInRule.toInt + v222_l2.toInt = m_unitsInRule.toInt + 1) → ((v222_l2.toInt = 1 ∨ m_unitsInRule.toInt ≤ 29)) → (m_at.toInt < v222_p_m_at.toInt) → (FrC c_code c_code m_rb) → (((v222_p_m_token.toInt = 0 ∧ v222_p_m_at.toInt = m_size.toInt ∧ v222_p_m_end.toInt = m_size.toInt) ∨ (1 ≤ v222_p_m_token.toInt ∧ v222_p_m_at.toInt < v222_p_m_end.toInt ∧ v222_p_m_end.toInt ≤ m_size.toInt))) → (m_at.toInt ≤ v222_p_m_at.toInt) → (TYm ad cy fr0 c_text m_taped m_size v222_p_m_faultKind v222_p_m_faultPlace v222_p_m_at v222_p_m_end v222_p_m_token v222_p_m_number v222_p_m_name c_points c_strands v222_p_c_units c_told c_ruleFrom c_ruleTo c_code c_eWhat c_eSign m_bank m_rb m_codes m_within m_piled v222_p_m_unitsInRule m_askStrand m_askTied m_thoughtClaim m_thoughtNeed m_thoughtAll c_roundOf m_acts m_undone m_laid m_firstMove m_seens m_time m_waysNow m_fitting f) → (va_P D vwCl (wl ad f) H) → (va_D A (wl ad f)) → (va_S A s.heap H locs) → (lv_has ls 7 [(6, .int v222_l6), (5, .int v222_l5), (4, .int v222_l4), (3, .int v222_l3), (2, .int v222_l2), (1, .int v222_l1), (0, .ref (ad 148))]) → W p l e (rmO 2 44 0 0) s m ([.ref (ad 148)] : List Value).toArray below meth c H locs 0 0 (MQ below (va_Qi (fun (r : Int32) (g : Nat → va_E) => ((r = 1) ∨ (r = 0)) ∧ (∃ (m_faultKind' : Int32) (m_faultPlace' : Int32) (m_at' : Int32) (m_end' : Int32) (m_token' : Int32) (m_number' : Int32) (m_name' : Int64) (c_units' : Nat → Int32) (c_code' : Nat → Int32) (c_eWhat' : Nat → Int32) (c_eSign' : Nat → Int32) (m_codes' : Int32) (m_within' : Int32) (m_piled' : Int32) (m_unitsInRule' : Int32), TYm ad cy fr0 c_text m_taped m_size m_faultKind' m_faultPlace' m_at' m_end' m_token' m_number' m_name' c_points c_strands c_units' c_told c_ruleFrom c_ruleTo c_code' c_eWhat' c_eSign' m_bank m_rb m_codes' m_within' m_piled' m_unitsInRule' m_askStrand m_askTied m_thoughtClaim m_thoughtNeed m_thoughtAll c_roundOf m_acts m_undone m_laid m_firstMove m_seens m_time m_waysNow m_fitting g ∧ (0 ≤ m_end'.toInt ∧ m_end'.toInt ≤ 1600) ∧ (1 ≤ m_piled'.toInt ∧ m_piled'.toInt ≤ 90) ∧ ((m_token'.toInt = 0 ∧ m_at'.toInt = m_size.toInt ∧ m_end'.toInt = m_size.toInt) ∨ (1 ≤ m_token'.toInt ∧ m_at'.toInt < m_end'.toInt ∧ m_end'.toInt ≤ m_size.toInt)) ∧ m_at.toInt ≤ m_at'.toInt ∧ (0 ≤ m_within'.toInt ∧ m_within'.toInt ≤ 7 ∧ m_within'.toInt = cQZ c_eWhat' m_piled'.toInt) ∧ (0 ≤ m_unitsInRule'.toInt ∧ m_unitsInRule'.toInt ≤ 30) ∧ ((c_ruleFrom m_rb.toNatClampNeg).toInt = 560 * m_rb.toInt ∧ 0 ≤ m_rb.toInt ∧ m_rb.toInt ≤ 1 ∧ (c_ruleFrom m_rb.toNatClampNeg).toInt ≤ m_codes'.toInt) ∧ (dpZ c_code' (c_ruleFrom m_rb.toNatClampNeg) m_codes'.toInt ≤ m_unitsInRule'.toInt ∧ 0 ≤ cPZ c_eWhat' m_piled'.toInt) ∧ (m_piled'.toInt ≤ 1 + m_within'.toInt + cPZ c_eWhat' m_piled'.toInt ∧ 0 ≤ m_piled'.toInt) ∧ (r.toInt = 1 → (cPZ c_eWhat' m_piled'.toInt ≤ dpZ c_code' (c_ruleFrom m_rb.toNatClampNeg) m_codes'.toInt ∧ m_codes'.toInt - (c_ruleFrom m_rb.toNatClampNeg).toInt + dpZ c_code' (c_ruleFrom m_rb.toNatClampNeg) m_codes'.toInt ≤ 16 * m_unitsInRule'.toInt + m_within'.toInt)) ∧ (r.toInt = 0 → (cPZ c_eWhat' m_piled'.toInt + 1 ≤ dpZ c_code' (c_ruleFrom m_rb.toNatClampNeg) m_codes'.toInt ∧ m_codes'.toInt - (c_ruleFrom m_rb.toNatClampNeg).toInt + dpZ c_code' (c_ruleFrom m_rb.toNatClampNeg) m_codes'.toInt + m_within'.toInt ≤ 16 * m_unitsInRule'.toInt)) ∧ 1 ≤ m_piled'.toInt ∧ (1 ≤ m_faultKind'.toInt ∨ (m_at.toInt < m_at'.toInt ∧ m_piled'.toInt ≤ m_piled.toInt + 1)) ∧ SGp c_eWhat' c_eSign' m_piled'.toInt ∧ okcZ c_code' (c_ruleFrom m_rb.toNatClampNeg) m_codes'.toInt ∧ FrC c_code c_code' m_rb)) (fun g t => PstT D ad g t) A) ([.ref (ad 148)] : List Value).toArray s 0 0 A) (F0 m 222 ls []) := by
    intro f H locs ls v222_l6 v222_l5 v222_l4 v222_l3 v222_l2 v222_l1 v222_p_m_faultKind v222_p_m_faultPlace v222_p_m_at v222_p_m_end v222_p_m_token v222_p_m_number v222_p_m_name v222_p_c_units v222_p_m_unitsInRule hv222_l5 hv222_l4 hv222_l3 hv222_l2 hv222_l1 hv222_p_m_faultKind hv222_p_m_end hv222_p_m_piled hv222_p_m_unitsInRule hJ222_0 hJ222_1 hJ222_2 hJ222_3 hJ222_4 hFr hJ222_6 hJ222_7 hT hP hD hS hl
    refine lv_aload_n hx hb dX9_unit_222 rfl (lv_at hl 6 rfl) ?_
    refine lv_iload_n hx hb dX9_unit_223 rfl (lv_at hl 4 rfl) ?_
    have ttl_0 := tl_0
    refine lv_if_eq (tgt := 231) hx hb dX9_unit_224 (by decide) (fun c62 => ?_) (fun c62 => ?_)
    · have kc62 := c_eq c62
      refine lv_bipush (v := 7) hx hb dX9_unit_231 (by decide) ?_
      obtain ⟨e78, h63, h64, h65, h66, h67, h68, h69, h70, h71, h72, h73, h74, h75, h76, h77⟩ := (show okX9 ad m_taped m_size v222_p_m_faultKind v222_p_m_faultPlace v222_p_m_at v222_p_m_end v222_p_m_token v222_p_m_number v222_p_m_name m_bank m_rb m_codes m_within m_piled v222_p_m_unitsInRule m_askStrand m_askTied m_thoughtClaim m_thoughtNeed m_thoughtAll m_acts m_undone m_laid m_firstMove m_seens m_time m_waysNow m_fitting 148 (f 148) from hT.1 148 (by decide))
      have ttl_7 := tl_7
      exact j233 f H locs ls v222_l6 v222_l5 v222_l4 v222_l3 v222_l2 v222_l1 (7 : Int32) v222_p_m_faultKind v222_p_m_faultPlace v222_p_m_at v222_p_m_end v222_p_m_token v222_p_m_number v222_p_m_name v222_p_c_units v222_p_m_unitsInRule (by omega) (by omega) (by omega) (by omega) (by omega) (by omega) (by omega) (by omega) (by omega) (by omega) (by omega) (by omega) (by omega) (by omega) (by omega) (by omega) (hFr) (by omega) (by omega) hT hP hD hS (lv_sub hl [0, 1, 2, 3, 4, 5, 6] rfl)
    · have kc62 := c_ne c62
      refine lv_iconst (v := 3) hx hb dX9_unit_227 (by decide) ?_
      refine lv_goto (tgt := 233) hx hb dX9_unit_228 (by decide) ?_
      obtain ⟨e94, h79, h80, h81, h82, h83, h84, h85, h86, h87, h88, h89, h90, h91, h92, h93⟩ := (show okX9 ad m_taped m_size v222_p_m_faultKind v222_p_m_faultPlace v222_p_m_at v222_p_m_end v222_p_m_token v222_p_m_number v222_p_m_name m_bank m_rb m_codes m_within m_piled v222_p_m_unitsInRule m_askStrand m_askTied m_thoughtClaim m_thoughtNeed m_thoughtAll m_acts m_undone m_laid m_firstMove m_seens m_time m_waysNow m_fitting 148 (f 148) from hT.1 148 (by decide))
      have ttl_3 := tl_3
      exact j233 f H locs ls v222_l6 v222_l5 v222_l4 v222_l3 v222_l2 v222_l1 (3 : Int32) v222_p_m_faultKind v222_p_m_faultPlace v222_p_m_at v222_p_m_end v222_p_m_token v222_p_m_number v222_p_m_name v222_p_c_units v222_p_m_unitsInRule (by omega) (by omega) (by omega) (by omega) (by omega) (by omega) (by omega) (by omega) (by omega) (by omega) (by omega) (by omega) (by omega) (by omega) (by omega) (by omega) (hFr) (by omega) (by omega) hT hP hD hS (lv_sub hl [0, 1, 2, 3, 4, 5, 6] rfl)
  have j208 : ∀ (f : Nat → va_E) (H : Heap) (locs : List Loc) (ls : Array Slot) (v208_l5 : Int32) (v208_l4 : Int32) (v208_l3 : Int32) (v208_l2 : Int32) (v208_l1 : Int32) (v208_s0 : Int32) (v208_p_m_faultKind : Int32) (v208_p_m_faultPlace : Int32) (v208_p_c_units : Nat → Int32) (v208_p_m_unitsInRule : Int32), (0 ≤ v208_l5.toInt ∧ v208_l5.toInt ≤ 1) → (0 ≤ v208_l4.toInt ∧ v208_l4.toInt ≤ 122) → (0 ≤ v208_l3.toInt ∧ v208_l3.toInt ≤ 1) → (0 ≤ v208_l2.toInt ∧ v208_l2.toInt ≤ 1) → (0 ≤ v208_l1.toInt ∧ v208_l1.toInt ≤ 1) → (0 ≤ v208_p_m_faultKind.toInt ∧ v208_p_m_faultKind.toInt ≤ 0) → (0 ≤ m_end.toInt ∧ m_end.toInt ≤ 1600) → (1 ≤ m_piled.toInt ∧ m_piled.toInt ≤ 90) → (0 ≤ v208_p_m_unitsInRule.toInt ∧ v208_p_m_unitsInRule.toInt ≤ 31) → ((v208_l4.toInt = 0 ∨ (97 ≤ v208_l4.toInt ∧ v208_l4.toInt ≤ 122))) → ((v208_l2.toInt = 1 ∨ m_unitsInRule.toInt ≤ 29)) → (((v208_l2.toInt = 1 ∨ v208_l3.toInt = 1) → m_within.toInt ≤ 6)) → (1 ≤ m_token.toInt) → (v208_p_m_unitsInRule.toInt + v208_l2.toInt = m_unitsInRule.toInt + 1) → (FrC c_code c_code m_rb) → (TYm ad cy fr0 c_text m_taped m_size v208_p_m_faultKind v208_p_m_faultPlace m_at m_end m_token m_number m_name c_points c_strands v208_p_c_units c_told c_ruleFrom c_ruleTo c_code c_eWhat c_eSign m_bank m_rb m_codes m_within m_piled v208_p_m_unitsInRule m_askStrand m_askTied m_thoughtClaim m_thoughtNeed m_thoughtAll c_roundOf m_acts m_undone m_laid m_firstMove m_seens m_time m_waysNow m_fitting f) → (va_P D vwCl (wl ad f) H) → (va_D A (wl ad f)) → (va_S A s.heap H locs) → (lv_has ls 7 [(5, .int v208_l5), (4, .int v208_l4), (3, .int v208_l3), (2, .int v208_l2), (1, .int v208_l1), (0, .ref (ad 148))]) → W p l e (rmO 2 44 0 0) s m ([.ref (ad 148)] : List Value).toArray below meth c H locs 0 0 (MQ below (va_Qi (fun (r : Int32) (g : Nat → va_E) => ((r = 1) ∨ (r = 0)) ∧ (∃ (m_faultKind' : Int32) (m_faultPlace' : Int32) (m_at' : Int32) (m_end' : Int32) (m_token' : Int32) (m_number' : Int32) (m_name' : Int64) (c_units' : Nat → Int32) (c_code' : Nat → Int32) (c_eWhat' : Nat → Int32) (c_eSign' : Nat → Int32) (m_codes' : Int32) (m_within' : Int32) (m_piled' : Int32) (m_unitsInRule' : Int32), TYm ad cy fr0 c_text m_taped m_size m_faultKind' m_faultPlace' m_at' m_end' m_token' m_number' m_name' c_points c_strands c_units' c_told c_ruleFrom c_ruleTo c_code' c_eWhat' c_eSign' m_bank m_rb m_codes' m_within' m_piled' m_unitsInRule' m_askStrand m_askTied m_thoughtClaim m_thoughtNeed m_thoughtAll c_roundOf m_acts m_undone m_laid m_firstMove m_seens m_time m_waysNow m_fitting g ∧ (0 ≤ m_end'.toInt ∧ m_end'.toInt ≤ 1600) ∧ (1 ≤ m_piled'.toInt ∧ m_piled'.toInt ≤ 90) ∧ ((m_token'.toInt = 0 ∧ m_at'.toInt = m_size.toInt ∧ m_end'.toInt = m_size.toInt) ∨ (1 ≤ m_token'.toInt ∧ m_at'.toInt < m_end'.toInt ∧ m_end'.toInt ≤ m_size.toInt)) ∧ m_at.toInt ≤ m_at'.toInt ∧ (0 ≤ m_within'.toInt ∧ m_within'.toInt ≤ 7 ∧ m_within'.toInt = cQZ c_eWhat' m_piled'.toInt) ∧ (0 ≤ m_unitsInRule'.toInt ∧ m_unitsInRule'.toInt ≤ 30) ∧ ((c_ruleFrom m_rb.toNatClampNeg).toInt = 560 * m_rb.toInt ∧ 0 ≤ m_rb.toInt ∧ m_rb.toInt ≤ 1 ∧ (c_ruleFrom m_rb.toNatClampNeg).toInt ≤ m_codes'.toInt) ∧ (dpZ c_code' (c_ruleFrom m_rb.toNatClampNeg) m_codes'.toInt ≤ m_unitsInRule'.toInt ∧ 0 ≤ cPZ c_eWhat' m_piled'.toInt) ∧ (m_piled'.toInt ≤ 1 + m_within'.toInt + cPZ c_eWhat' m_piled'.toInt ∧ 0 ≤ m_piled'.toInt) ∧ (r.toInt = 1 → (cPZ c_eWhat' m_piled'.toInt ≤ dpZ c_code' (c_ruleFrom m_rb.toNatClampNeg) m_codes'.toInt ∧ m_codes'.toInt - (c_ruleFrom m_rb.toNatClampNeg).toInt + dpZ c_code' (c_ruleFrom m_rb.toNatClampNeg) m_codes'.toInt ≤ 16 * m_unitsInRule'.toInt + m_within'.toInt)) ∧ (r.toInt = 0 → (cPZ c_eWhat' m_piled'.toInt + 1 ≤ dpZ c_code' (c_ruleFrom m_rb.toNatClampNeg) m_codes'.toInt ∧ m_codes'.toInt - (c_ruleFrom m_rb.toNatClampNeg).toInt + dpZ c_code' (c_ruleFrom m_rb.toNatClampNeg) m_codes'.toInt + m_within'.toInt ≤ 16 * m_unitsInRule'.toInt)) ∧ 1 ≤ m_piled'.toInt ∧ (1 ≤ m_faultKind'.toInt ∨ (m_at.toInt < m_at'.toInt ∧ m_piled'.toInt ≤ m_piled.toInt + 1)) ∧ SGp c_eWhat' c_eSign' m_piled'.toInt ∧ okcZ c_code' (c_ruleFrom m_rb.toNatClampNeg) m_codes'.toInt ∧ FrC c_code c_code' m_rb)) (fun g t => PstT D ad g t) A) ([.ref (ad 148)] : List Value).toArray s 0 0 A) (F0 m 208 ls [.int v208_s0]) := by
    intro f H locs ls v208_l5 v208_l4 v208_l3 v208_l2 v208_l1 v208_s0 v208_p_m_faultKind v208_p_m_faultPlace v208_p_c_units v208_p_m_unitsInRule hv208_l5 hv208_l4 hv208_l3 hv208_l2 hv208_l1 hv208_p_m_faultKind hv208_p_m_end hv208_p_m_piled hv208_p_m_unitsInRule hJ208_0 hJ208_1 hJ208_2 hJ208_3 hJ208_4 hFr hT hP hD hS hl
    refine lv_istore (lv' := [(6, .int v208_s0), (5, .int v208_l5), (4, .int v208_l4), (3, .int v208_l3), (2, .int v208_l2), (1, .int v208_l1), (0, .ref (ad 148))]) hx hb dX9_unit_208 hl (by decide) rfl (fun ls hl => ?_)
    refine lv_aload_n hx hb dX9_unit_210 rfl (lv_at hl 6 rfl) ?_
    obtain ⟨e110, h95, h96, h97, h98, h99, h100, h101, h102, h103, h104, h105, h106, h107, h108, h109⟩ := (show okX9 ad m_taped m_size v208_p_m_faultKind v208_p_m_faultPlace m_at m_end m_token m_number m_name m_bank m_rb m_codes m_within m_piled v208_p_m_unitsInRule m_askStrand m_askTied m_thoughtClaim m_thoughtNeed m_thoughtAll m_acts m_undone m_laid m_firstMove m_seens m_time m_waysNow m_fitting 148 (f 148) from hT.1 148 (by decide))
    refine tVV (As := []) (rest := []) (i := 148) ⟨hx, hb, hml, hown, hts⟩ hK hE hP hD hS hA hAB (s_X9_goOn_0 l B0 adK adV D cy ad fr0 c_text m_taped m_size v208_p_m_faultKind v208_p_m_faultPlace m_at m_end m_token m_number m_name c_points c_strands v208_p_c_units c_told c_ruleFrom c_ruleTo c_code c_eWhat c_eSign m_bank m_rb m_codes m_within m_piled v208_p_m_unitsInRule m_askStrand m_askTied m_thoughtClaim m_thoughtNeed m_thoughtAll c_roundOf m_acts m_undone m_laid m_firstMove m_seens m_time m_waysNow m_fitting f hT (by omega) (by omega) _) (cwV 0 hts gX9_unit_X9_goOn rfl rfl rfl (by decide +kernel) ⟨Nat.le_of_ble_eq_true rfl, Nat.le_of_ble_eq_true rfl⟩) (by decide) 9 e110 rfl rfl hl.1 rfl (Nat.le_of_ble_eq_true rfl) dX9_unit_211 ⟨Nat.le_of_ble_eq_true rfl, Nat.le_of_ble_eq_true rfl⟩ (fun f H locs hw hP hD hS => ?_)
    obtain ⟨hrs, x111, x112, x113, x114, y115, hT, h116, h117, h118⟩ := hw
    refine lv_iload_n hx hb dX9_unit_214 rfl (lv_at hl 4 rfl) ?_
    have ttl_0 := tl_0
    refine lv_if_ne (tgt := 222) hx hb dX9_unit_215 (by decide) (fun c119 => ?_) (fun c119 => ?_)
    · have kc119 := c_ne c119
      obtain ⟨e135, h120, h121, h122, h123, h124, h125, h126, h127, h128, h129, h130, h131, h132, h133, h134⟩ := (show okX9 ad m_taped m_size v208_p_m_faultKind v208_p_m_faultPlace x111 x112 x113 x114 y115 m_bank m_rb m_codes m_within m_piled v208_p_m_unitsInRule m_askStrand m_askTied m_thoughtClaim m_thoughtNeed m_thoughtAll m_acts m_undone m_laid m_firstMove m_seens m_time m_waysNow m_fitting 148 (f 148) from hT.1 148 (by decide))
      exact j222 f H locs ls v208_s0 v208_l5 v208_l4 v208_l3 v208_l2 v208_l1 v208_p_m_faultKind v208_p_m_faultPlace x111 x112 x113 x114 y115 v208_p_c_units v208_p_m_unitsInRule (by omega) (by omega) (by omega) (by omega) (by omega) (by omega) (by omega) (by omega) (by omega) (by omega) (by omega) (by omega) (by omega) (by omega) (hFr) (by omega) (by omega) hT hP hD hS (lv_sub hl [0, 1, 2, 3, 4, 5, 6] rfl)
    · have kc119 := c_eq c119
      refine lv_iload_n hx hb dX9_unit_218 rfl (lv_at hl 3 rfl) ?_
      refine lv_if_eq (tgt := 250) hx hb dX9_unit_219 (by decide) (fun c136 => ?_) (fun c136 => ?_)
      · have kc136 := c_eq c136
        refine lv_aload_n hx hb dX9_unit_250 rfl (lv_at hl 6 rfl) ?_
        refine lv_iload hx hb dX9_unit_251 (lv_at hl 2 rfl) ?_
        refine lv_if_ne (tgt := 261) hx hb dX9_unit_253 (by decide) (fun c137 => ?_) (fun c137 => ?_)
        · have kc137 := c_ne c137
          refine lv_iload hx hb dX9_unit_261 (lv_at hl 2 rfl) ?_
          obtain ⟨e153, h138, h139, h140, h141, h142, h143, h144, h145, h146, h147, h148, h149, h150, h151, h152⟩ := (show okX9 ad m_taped m_size v208_p_m_faultKind v208_p_m_faultPlace x111 x112 x113 x114 y115 m_bank m_rb m_codes m_within m_piled v208_p_m_unitsInRule m_askStrand m_askTied m_thoughtClaim m_thoughtNeed m_thoughtAll m_acts m_undone m_laid m_firstMove m_seens m_time m_waysNow m_fitting 148 (f 148) from hT.1 148 (by decide))
          exact j263 f H locs ls v208_s0 v208_l5 v208_l4 v208_l3 v208_l2 v208_l1 v208_l4 v208_p_m_faultKind v208_p_m_faultPlace x111 x112 x113 x114 y115 v208_p_c_units v208_p_m_unitsInRule (by omega) (by omega) (by omega) (by omega) (by omega) (by omega) (by omega) (by omega) (by omega) (by omega) (by omega) (by omega) (by omega) (by omega) (hFr) (by omega) (by omega) hT hP hD hS (lv_sub hl [0, 1, 2, 3, 4, 5, 6] rfl)
        · have kc137 := c_eq c137
          refine lv_bipush (v := 110) hx hb dX9_unit_256 (by decide) ?_
          refine lv_goto (tgt := 263) hx hb dX9_unit_258 (by decide) ?_
          obtain ⟨e169, h154, h155, h156, h157, h158, h159, h160, h161, h162, h163, h164, h165, h166, h167, h168⟩ := (show okX9 ad m_taped m_size v208_p_m_faultKind v208_p_m_faultPlace x111 x112 x113 x114 y115 m_bank m_rb m_codes m_within m_piled v208_p_m_unitsInRule m_askStrand m_askTied m_thoughtClaim m_thoughtNeed m_thoughtAll m_acts m_undone m_laid m_firstMove m_seens m_time m_waysNow m_fitting 148 (f 148) from hT.1 148 (by decide))
          have ttl_110 := tl_110
          exact j263 f H locs ls v208_s0 v208_l5 v208_l4 v208_l3 v208_l2 v208_l1 (110 : Int32) v208_p_m_faultKind v208_p_m_faultPlace x111 x112 x113 x114 y115 v208_p_c_units v208_p_m_unitsInRule (by omega) (by omega) (by omega) (by omega) (by omega) (by omega) (by omega) (by omega) (by omega) (by omega) (by omega) (by omega) (by omega) (by omega) (hFr) (by omega) (by omega) hT hP hD hS (lv_sub hl [0, 1, 2, 3, 4, 5, 6] rfl)
      · have kc136 := c_ne c136
        obtain ⟨e185, h170, h171, h172, h173, h174, h175, h176, h177, h178, h179, h180, h181, h182, h183, h184⟩ := (show okX9 ad m_taped m_size v208_p_m_faultKind v208_p_m_faultPlace x111 x112 x113 x114 y115 m_bank m_rb m_codes m_within m_piled v208_p_m_unitsInRule m_askStrand m_askTied m_thoughtClaim m_thoughtNeed m_thoughtAll m_acts m_undone m_laid m_firstMove m_seens m_time m_waysNow m_fitting 148 (f 148) from hT.1 148 (by decide))
        exact j222 f H locs ls v208_s0 v208_l5 v208_l4 v208_l3 v208_l2 v208_l1 v208_p_m_faultKind v208_p_m_faultPlace x111 x112 x113 x114 y115 v208_p_c_units v208_p_m_unitsInRule (by omega) (by omega) (by omega) (by omega) (by omega) (by omega) (by omega) (by omega) (by omega) (by omega) (by omega) (by omega) (by omega) (by omega) (hFr) (by omega) (by omega) hT hP hD hS (lv_sub hl [0, 1, 2, 3, 4, 5, 6] rfl)
  have j191 : ∀ (f : Nat → va_E) (H : Heap) (locs : List Loc) (ls : Array Slot) (v191_l5 : Int32) (v191_l4 : Int32) (v191_l3 : Int32) (v191_l2 : Int32) (v191_l1 : Int32) (v191_s2 : Int32) (v191_p_m_faultKind : Int32) (v191_p_m_faultPlace : Int32) (v191_p_c_units : Nat → Int32), (0 ≤ v191_l5.toInt ∧ v191_l5.toInt ≤ 1) → (0 ≤ v191_l4.toInt ∧ v191_l4.toInt ≤ 122) → (0 ≤ v191_l3.toInt ∧ v191_l3.toInt ≤ 1) → (0 ≤ v191_l2.toInt ∧ v191_l2.toInt ≤ 1) → (0 ≤ v191_l1.toInt ∧ v191_l1.toInt ≤ 1) → (0 ≤ v191_s2.toInt ∧ v191_s2.toInt ≤ 1) → (0 ≤ v191_p_m_faultKind.toInt ∧ v191_p_m_faultKind.toInt ≤ 0) → (0 ≤ m_end.toInt ∧ m_end.toInt ≤ 1600) → (1 ≤ m_piled.toInt ∧ m_piled.toInt ≤ 90) → ((v191_l4.toInt = 0 ∨ (97 ≤ v191_l4.toInt ∧ v191_l4.toInt ≤ 122))) → ((v191_l2.toInt = 1 ∨ m_unitsInRule.toInt ≤ 29)) → (((v191_l2.toInt = 1 ∨ v191_l3.toInt = 1) → m_within.toInt ≤ 6)) → (1 ≤ m_token.toInt) → (v191_s2.toInt + v191_l2.toInt = 1) → (FrC c_code c_code m_rb) → (TYm ad cy fr0 c_text m_taped m_size v191_p_m_faultKind v191_p_m_faultPlace m_at m_end m_token m_number m_name c_points c_strands v191_p_c_units c_told c_ruleFrom c_ruleTo c_code c_eWhat c_eSign m_bank m_rb m_codes m_within m_piled m_unitsInRule m_askStrand m_askTied m_thoughtClaim m_thoughtNeed m_thoughtAll c_roundOf m_acts m_undone m_laid m_firstMove m_seens m_time m_waysNow m_fitting f) → (va_P D vwCl (wl ad f) H) → (va_D A (wl ad f)) → (va_S A s.heap H locs) → (lv_has ls 7 [(5, .int v191_l5), (4, .int v191_l4), (3, .int v191_l3), (2, .int v191_l2), (1, .int v191_l1), (0, .ref (ad 148))]) → W p l e (rmO 2 44 0 0) s m ([.ref (ad 148)] : List Value).toArray below meth c H locs 0 0 (MQ below (va_Qi (fun (r : Int32) (g : Nat → va_E) => ((r = 1) ∨ (r = 0)) ∧ (∃ (m_faultKind' : Int32) (m_faultPlace' : Int32) (m_at' : Int32) (m_end' : Int32) (m_token' : Int32) (m_number' : Int32) (m_name' : Int64) (c_units' : Nat → Int32) (c_code' : Nat → Int32) (c_eWhat' : Nat → Int32) (c_eSign' : Nat → Int32) (m_codes' : Int32) (m_within' : Int32) (m_piled' : Int32) (m_unitsInRule' : Int32), TYm ad cy fr0 c_text m_taped m_size m_faultKind' m_faultPlace' m_at' m_end' m_token' m_number' m_name' c_points c_strands c_units' c_told c_ruleFrom c_ruleTo c_code' c_eWhat' c_eSign' m_bank m_rb m_codes' m_within' m_piled' m_unitsInRule' m_askStrand m_askTied m_thoughtClaim m_thoughtNeed m_thoughtAll c_roundOf m_acts m_undone m_laid m_firstMove m_seens m_time m_waysNow m_fitting g ∧ (0 ≤ m_end'.toInt ∧ m_end'.toInt ≤ 1600) ∧ (1 ≤ m_piled'.toInt ∧ m_piled'.toInt ≤ 90) ∧ ((m_token'.toInt = 0 ∧ m_at'.toInt = m_size.toInt ∧ m_end'.toInt = m_size.toInt) ∨ (1 ≤ m_token'.toInt ∧ m_at'.toInt < m_end'.toInt ∧ m_end'.toInt ≤ m_size.toInt)) ∧ m_at.toInt ≤ m_at'.toInt ∧ (0 ≤ m_within'.toInt ∧ m_within'.toInt ≤ 7 ∧ m_within'.toInt = cQZ c_eWhat' m_piled'.toInt) ∧ (0 ≤ m_unitsInRule'.toInt ∧ m_unitsInRule'.toInt ≤ 30) ∧ ((c_ruleFrom m_rb.toNatClampNeg).toInt = 560 * m_rb.toInt ∧ 0 ≤ m_rb.toInt ∧ m_rb.toInt ≤ 1 ∧ (c_ruleFrom m_rb.toNatClampNeg).toInt ≤ m_codes'.toInt) ∧ (dpZ c_code' (c_ruleFrom m_rb.toNatClampNeg) m_codes'.toInt ≤ m_unitsInRule'.toInt ∧ 0 ≤ cPZ c_eWhat' m_piled'.toInt) ∧ (m_piled'.toInt ≤ 1 + m_within'.toInt + cPZ c_eWhat' m_piled'.toInt ∧ 0 ≤ m_piled'.toInt) ∧ (r.toInt = 1 → (cPZ c_eWhat' m_piled'.toInt ≤ dpZ c_code' (c_ruleFrom m_rb.toNatClampNeg) m_codes'.toInt ∧ m_codes'.toInt - (c_ruleFrom m_rb.toNatClampNeg).toInt + dpZ c_code' (c_ruleFrom m_rb.toNatClampNeg) m_codes'.toInt ≤ 16 * m_unitsInRule'.toInt + m_within'.toInt)) ∧ (r.toInt = 0 → (cPZ c_eWhat' m_piled'.toInt + 1 ≤ dpZ c_code' (c_ruleFrom m_rb.toNatClampNeg) m_codes'.toInt ∧ m_codes'.toInt - (c_ruleFrom m_rb.toNatClampNeg).toInt + dpZ c_code' (c_ruleFrom m_rb.toNatClampNeg) m_codes'.toInt + m_within'.toInt ≤ 16 * m_unitsInRule'.toInt)) ∧ 1 ≤ m_piled'.toInt ∧ (1 ≤ m_faultKind'.toInt ∨ (m_at.toInt < m_at'.toInt ∧ m_piled'.toInt ≤ m_piled.toInt + 1)) ∧ SGp c_eWhat' c_eSign' m_piled'.toInt ∧ okcZ c_code' (c_ruleFrom m_rb.toNatClampNeg) m_codes'.toInt ∧ FrC c_code c_code' m_rb)) (fun g t => PstT D ad g t) A) ([.ref (ad 148)] : List Value).toArray s 0 0 A) (F0 m 191 ls [.int v191_s2, .int m_unitsInRule, .ref (ad 148)]) := by
    intro f H locs ls v191_l5 v191_l4 v191_l3 v191_l2 v191_l1 v191_s2 v191_p_m_faultKind v191_p_m_faultPlace v191_p_c_units hv191_l5 hv191_l4 hv191_l3 hv191_l2 hv191_l1 hv191_s2 hv191_p_m_faultKind hv191_p_m_end hv191_p_m_piled hJ191_0 hJ191_1 hJ191_2 hJ191_3 hJ191_4 hFr hT hP hD hS hl
    have ha186 : 0 ≤ m_unitsInRule.toInt ∧ m_unitsInRule.toInt ≤ 30 := by omega
    refine lv_iadd hx hb dX9_unit_191 ?_
    refine lv_topi (fun x187 ex187 => ?_)
    have hx187 := r_add ex187 (by omega) (by omega)
    obtain ⟨e203, h188, h189, h190, h191, h192, h193, h194, h195, h196, h197, h198, h199, h200, h201, h202⟩ := (show okX9 ad m_taped m_size v191_p_m_faultKind v191_p_m_faultPlace m_at m_end m_token m_number m_name m_bank m_rb m_codes m_within m_piled m_unitsInRule m_askStrand m_askTied m_thoughtClaim m_thoughtNeed m_thoughtAll m_acts m_undone m_laid m_firstMove m_seens m_time m_waysNow m_fitting 148 (f 148) from hT.1 148 (by decide))
    refine va_put (D := D) (cl := vwCl) (ci := 9) (v := .int x187) (ty := tyX9 34) (C := RX9) (T := TX9) (N := 64) hx hb hts in_X9_unit_X9 tyX9 tyX9_ok nmX9 hown hK hP hD hS 148 (wl_at (by decide) e203) rfl 34 (by decide) (hts (.fieldLink RX9 279 "EightReasonsModel" "unitsInRule" "I") (List.mem_of_getElem? (i := 6) rfl)) (fun _ h9 => h9) rfl (tyX9_ok 34 (by decide)) rfl rfl (Nat.le_of_ble_eq_true rfl) dX9_unit_192 (fun H locs hP hD hS => ?_)
    obtain ⟨f, hT, hP, hD, e204, hj205⟩ := stU (by decide) (TYm.p148 hT (show OKm ad cy c_text m_taped m_size v191_p_m_faultKind v191_p_m_faultPlace m_at m_end m_token m_number m_name c_points c_strands v191_p_c_units c_told c_ruleFrom c_ruleTo c_code c_eWhat c_eSign m_bank m_rb m_codes m_within m_piled x187 m_askStrand m_askTied m_thoughtClaim m_thoughtNeed m_thoughtAll c_roundOf m_acts m_undone m_laid m_firstMove m_seens m_time m_waysNow m_fitting 148 _ from (show okX9 ad m_taped m_size v191_p_m_faultKind v191_p_m_faultPlace m_at m_end m_token m_number m_name m_bank m_rb m_codes m_within m_piled x187 m_askStrand m_askTied m_thoughtClaim m_thoughtNeed m_thoughtAll m_acts m_undone m_laid m_firstMove m_seens m_time m_waysNow m_fitting 148 _ from ⟨rfl, by omega, by omega, by omega, by omega, by omega, by omega, by omega, by omega, by omega, by omega, by omega, by omega, by omega, by omega, by omega⟩))) hP hD
    refine lv_iload hx hb dX9_unit_195 (lv_at hl 1 rfl) ?_
    have ttl_0 := tl_0
    refine lv_if_ne (tgt := 207) hx hb dX9_unit_197 (by decide) (fun c206 => ?_) (fun c206 => ?_)
    · have kc206 := c_ne c206
      refine lv_iconst (v := 0) hx hb dX9_unit_207 (by decide) ?_
      exact j208 f H locs ls v191_l5 v191_l4 v191_l3 v191_l2 v191_l1 (0 : Int32) v191_p_m_faultKind v191_p_m_faultPlace v191_p_c_units x187 (by omega) (by omega) (by omega) (by omega) (by omega) (by omega) (by omega) (by omega) (by omega) (by omega) (by omega) (by omega) (by omega) (by omega) (hFr) hT hP hD hS (lv_sub hl [0, 1, 2, 3, 4, 5] rfl)
    · have kc206 := c_eq c206
      refine lv_aload_n hx hb dX9_unit_200 rfl (lv_at hl 5 rfl) ?_
      refine va_get (D := D) (cl := vwCl) (ci := 9) (v := .int m_number) (C := RX9) (T := TX9) (N := 64) hx hb hts in_X9_unit_X9 hown hK hP 148 (wl_at (by decide) e204) rfl 9 (by decide) (hts (.fieldLink RX9 199 "EightReasonsModel" "number" "I") (List.mem_of_getElem? (i := 9) rfl)) (fun _ h9 => h9) rfl dX9_unit_201 ?_
      refine lv_goto (tgt := 208) hx hb dX9_unit_204 (by decide) ?_
      exact j208 f H locs ls v191_l5 v191_l4 v191_l3 v191_l2 v191_l1 m_number v191_p_m_faultKind v191_p_m_faultPlace v191_p_c_units x187 (by omega) (by omega) (by omega) (by omega) (by omega) (by omega) (by omega) (by omega) (by omega) (by omega) (by omega) (by omega) (by omega) (by omega) (hFr) hT hP hD hS (lv_sub hl [0, 1, 2, 3, 4, 5] rfl)
  have j175 : ∀ (f : Nat → va_E) (H : Heap) (locs : List Loc) (ls : Array Slot) (v175_l5 : Int32) (v175_l4 : Int32) (v175_l3 : Int32) (v175_l2 : Int32) (v175_l1 : Int32) (v175_s2 : Int32) (v175_s3 : Int32) (v175_p_m_faultKind : Int32) (v175_p_m_faultPlace : Int32), (0 ≤ v175_l5.toInt ∧ v175_l5.toInt ≤ 1) → (0 ≤ v175_l4.toInt ∧ v175_l4.toInt ≤ 122) → (0 ≤ v175_l3.toInt ∧ v175_l3.toInt ≤ 1) → (0 ≤ v175_l2.toInt ∧ v175_l2.toInt ≤ 1) → (0 ≤ v175_l1.toInt ∧ v175_l1.toInt ≤ 1) → (0 ≤ m_rb.toInt ∧ m_rb.toInt ≤ 1) → (0 ≤ v175_s3.toInt ∧ v175_s3.toInt ≤ 1) → (0 ≤ v175_p_m_faultKind.toInt ∧ v175_p_m_faultKind.toInt ≤ 0) → (0 ≤ m_end.toInt ∧ m_end.toInt ≤ 1600) → (1 ≤ m_piled.toInt ∧ m_piled.toInt ≤ 90) → ((v175_l4.toInt = 0 ∨ (97 ≤ v175_l4.toInt ∧ v175_l4.toInt ≤ 122))) → ((v175_l2.toInt = 1 ∨ m_unitsInRule.toInt ≤ 29)) → (((v175_l2.toInt = 1 ∨ v175_l3.toInt = 1) → m_within.toInt ≤ 6)) → (1 ≤ m_token.toInt) → (FrC c_code c_code m_rb) → (TYm ad cy fr0 c_text m_taped m_size v175_p_m_faultKind v175_p_m_faultPlace m_at m_end m_token m_number m_name c_points c_strands c_units c_told c_ruleFrom c_ruleTo c_code c_eWhat c_eSign m_bank m_rb m_codes m_within m_piled m_unitsInRule m_askStrand m_askTied m_thoughtClaim m_thoughtNeed m_thoughtAll c_roundOf m_acts m_undone m_laid m_firstMove m_seens m_time m_waysNow m_fitting f) → (va_P D vwCl (wl ad f) H) → (va_D A (wl ad f)) → (va_S A s.heap H locs) → (lv_has ls 7 [(5, .int v175_l5), (4, .int v175_l4), (3, .int v175_l3), (2, .int v175_l2), (1, .int v175_l1), (0, .ref (ad 148))]) → W p l e (rmO 2 44 0 0) s m ([.ref (ad 148)] : List Value).toArray below meth c H locs 0 0 (MQ below (va_Qi (fun (r : Int32) (g : Nat → va_E) => ((r = 1) ∨ (r = 0)) ∧ (∃ (m_faultKind' : Int32) (m_faultPlace' : Int32) (m_at' : Int32) (m_end' : Int32) (m_token' : Int32) (m_number' : Int32) (m_name' : Int64) (c_units' : Nat → Int32) (c_code' : Nat → Int32) (c_eWhat' : Nat → Int32) (c_eSign' : Nat → Int32) (m_codes' : Int32) (m_within' : Int32) (m_piled' : Int32) (m_unitsInRule' : Int32), TYm ad cy fr0 c_text m_taped m_size m_faultKind' m_faultPlace' m_at' m_end' m_token' m_number' m_name' c_points c_strands c_units' c_told c_ruleFrom c_ruleTo c_code' c_eWhat' c_eSign' m_bank m_rb m_codes' m_within' m_piled' m_unitsInRule' m_askStrand m_askTied m_thoughtClaim m_thoughtNeed m_thoughtAll c_roundOf m_acts m_undone m_laid m_firstMove m_seens m_time m_waysNow m_fitting g ∧ (0 ≤ m_end'.toInt ∧ m_end'.toInt ≤ 1600) ∧ (1 ≤ m_piled'.toInt ∧ m_piled'.toInt ≤ 90) ∧ ((m_token'.toInt = 0 ∧ m_at'.toInt = m_size.toInt ∧ m_end'.toInt = m_size.toInt) ∨ (1 ≤ m_token'.toInt ∧ m_at'.toInt < m_end'.toInt ∧ m_end'.toInt ≤ m_size.toInt)) ∧ m_at.toInt ≤ m_at'.toInt ∧ (0 ≤ m_within'.toInt ∧ m_within'.toInt ≤ 7 ∧ m_within'.toInt = cQZ c_eWhat' m_piled'.toInt) ∧ (0 ≤ m_unitsInRule'.toInt ∧ m_unitsInRule'.toInt ≤ 30) ∧ ((c_ruleFrom m_rb.toNatClampNeg).toInt = 560 * m_rb.toInt ∧ 0 ≤ m_rb.toInt ∧ m_rb.toInt ≤ 1 ∧ (c_ruleFrom m_rb.toNatClampNeg).toInt ≤ m_codes'.toInt) ∧ (dpZ c_code' (c_ruleFrom m_rb.toNatClampNeg) m_codes'.toInt ≤ m_unitsInRule'.toInt ∧ 0 ≤ cPZ c_eWhat' m_piled'.toInt) ∧ (m_piled'.toInt ≤ 1 + m_within'.toInt + cPZ c_eWhat' m_piled'.toInt ∧ 0 ≤ m_piled'.toInt) ∧ (r.toInt = 1 → (cPZ c_eWhat' m_piled'.toInt ≤ dpZ c_code' (c_ruleFrom m_rb.toNatClampNeg) m_codes'.toInt ∧ m_codes'.toInt - (c_ruleFrom m_rb.toNatClampNeg).toInt + dpZ c_code' (c_ruleFrom m_rb.toNatClampNeg) m_codes'.toInt ≤ 16 * m_unitsInRule'.toInt + m_within'.toInt)) ∧ (r.toInt = 0 → (cPZ c_eWhat' m_piled'.toInt + 1 ≤ dpZ c_code' (c_ruleFrom m_rb.toNatClampNeg) m_codes'.toInt ∧ m_codes'.toInt - (c_ruleFrom m_rb.toNatClampNeg).toInt + dpZ c_code' (c_ruleFrom m_rb.toNatClampNeg) m_codes'.toInt + m_within'.toInt ≤ 16 * m_unitsInRule'.toInt)) ∧ 1 ≤ m_piled'.toInt ∧ (1 ≤ m_faultKind'.toInt ∨ (m_at.toInt < m_at'.toInt ∧ m_piled'.toInt ≤ m_piled.toInt + 1)) ∧ SGp c_eWhat' c_eSign' m_piled'.toInt ∧ okcZ c_code' (c_ruleFrom m_rb.toNatClampNeg) m_codes'.toInt ∧ FrC c_code c_code' m_rb)) (fun g t => PstT D ad g t) A) ([.ref (ad 148)] : List Value).toArray s 0 0 A) (F0 m 175 ls [.int v175_s3, .int v175_s2, .int m_rb, .ref (ad 153)]) := by
    intro f H locs ls v175_l5 v175_l4 v175_l3 v175_l2 v175_l1 v175_s2 v175_s3 v175_p_m_faultKind v175_p_m_faultPlace hv175_l5 hv175_l4 hv175_l3 hv175_l2 hv175_l1 hv175_s1 hv175_s3 hv175_p_m_faultKind hv175_p_m_end hv175_p_m_piled hJ175_0 hJ175_1 hJ175_2 hJ175_3 hFr hT hP hD hS hl
    refine lv_iadd hx hb dX9_unit_175 ?_
    refine lv_topi (fun x207 ex207 => ?_)
    have e208 : f 153 = _ := (show okIp cy 2 c_units (f 153) from hT.1 153 (by decide))
    refine va_iast hx hb hK hP hD hS 153 0 (wl_at (by decide) e208) rfl (vp_in_iff.mpr ⟨by omega, by omega⟩) dX9_unit_176 (fun H locs hP hD hS => ?_)
    obtain ⟨c209, ec209⟩ : ∃ q, q = upd c_units (Int32.toNatClampNeg m_rb) x207 := ⟨_, rfl⟩
    rw [← ec209] at hP hD
    obtain ⟨f, hT, hP, hD, e210, hj211⟩ := stU (by decide) (TYm.p153 hT (show OKm ad cy c_text m_taped m_size v175_p_m_faultKind v175_p_m_faultPlace m_at m_end m_token m_number m_name c_points c_strands c209 c_told c_ruleFrom c_ruleTo c_code c_eWhat c_eSign m_bank m_rb m_codes m_within m_piled m_unitsInRule m_askStrand m_askTied m_thoughtClaim m_thoughtNeed m_thoughtAll c_roundOf m_acts m_undone m_laid m_firstMove m_seens m_time m_waysNow m_fitting 153 _ from (show okIp cy 2 c209 _ from rfl))) hP hD
    refine lv_aload_n hx hb dX9_unit_177 rfl (lv_at hl 5 rfl) ?_
    refine lv_dup hx hb dX9_unit_178 rfl ?_
    obtain ⟨e227, h212, h213, h214, h215, h216, h217, h218, h219, h220, h221, h222, h223, h224, h225, h226⟩ := (show okX9 ad m_taped m_size v175_p_m_faultKind v175_p_m_faultPlace m_at m_end m_token m_number m_name m_bank m_rb m_codes m_within m_piled m_unitsInRule m_askStrand m_askTied m_thoughtClaim m_thoughtNeed m_thoughtAll m_acts m_undone m_laid m_firstMove m_seens m_time m_waysNow m_fitting 148 (f 148) from hT.1 148 (by decide))
    refine va_get (D := D) (cl := vwCl) (ci := 9) (v := .int m_unitsInRule) (C := RX9) (T := TX9) (N := 64) hx hb hts in_X9_unit_X9 hown hK hP 148 (wl_at (by decide) e227) rfl 34 (by decide) (hts (.fieldLink RX9 279 "EightReasonsModel" "unitsInRule" "I") (List.mem_of_getElem? (i := 6) rfl)) (fun _ h9 => h9) rfl dX9_unit_179 ?_
    refine lv_iload_n hx hb dX9_unit_182 rfl (lv_at hl 3 rfl) ?_
    have ttl_0 := tl_0
    refine lv_if_eq (tgt := 190) hx hb dX9_unit_183 (by decide) (fun c228 => ?_) (fun c228 => ?_)
    · have kc228 := c_eq c228
      refine lv_iconst (v := 1) hx hb dX9_unit_190 (by decide) ?_
      have ttl_1 := tl_1
      exact j191 f H locs ls v175_l5 v175_l4 v175_l3 v175_l2 v175_l1 (1 : Int32) v175_p_m_faultKind v175_p_m_faultPlace c209 (by omega) (by omega) (by omega) (by omega) (by omega) (by omega) (by omega) (by omega) (by omega) (by omega) (by omega) (by omega) (by omega) (by omega) (hFr) hT hP hD hS (lv_sub hl [0, 1, 2, 3, 4, 5] rfl)
    · have kc228 := c_ne c228
      refine lv_iconst (v := 0) hx hb dX9_unit_186 (by decide) ?_
      refine lv_goto (tgt := 191) hx hb dX9_unit_187 (by decide) ?_
      exact j191 f H locs ls v175_l5 v175_l4 v175_l3 v175_l2 v175_l1 (0 : Int32) v175_p_m_faultKind v175_p_m_faultPlace c209 (by omega) (by omega) (by omega) (by omega) (by omega) (by omega) (by omega) (by omega) (by omega) (by omega) (by omega) (by omega) (by omega) (by omega) (hFr) hT hP hD hS (lv_sub hl [0, 1, 2, 3, 4, 5] rfl)
  have j147 : ∀ (f : Nat → va_E) (H : Heap) (locs : List Loc) (ls : Array Slot) (v147_l5 : Int32) (v147_l4 : Int32) (v147_l3 : Int32) (v147_l2 : Int32) (v147_l1 : Int32) (v147_p_m_faultKind : Int32) (v147_p_m_faultPlace : Int32), (0 ≤ v147_l5.toInt ∧ v147_l5.toInt ≤ 1) → (0 ≤ v147_l4.toInt ∧ v147_l4.toInt ≤ 122) → (0 ≤ v147_l3.toInt ∧ v147_l3.toInt ≤ 1) → (0 ≤ v147_l2.toInt ∧ v147_l2.toInt ≤ 1) → (0 ≤ v147_l1.toInt ∧ v147_l1.toInt ≤ 1) → (0 ≤ m_end.toInt ∧ m_end.toInt ≤ 1600) → (1 ≤ m_piled.toInt ∧ m_piled.toInt ≤ 90) → ((v147_l4.toInt = 0 ∨ (97 ≤ v147_l4.toInt ∧ v147_l4.toInt ≤ 122))) → ((v147_p_m_faultKind.toInt = 0 → (1 ≤ m_token.toInt ∧ (v147_l2.toInt = 1 ∨ m_unitsInRule.toInt ≤ 29) ∧ ((v147_l2.toInt = 1 ∨ v147_l3.toInt = 1) → m_within.toInt ≤ 6)))) → (FrC c_code c_code m_rb) → (TYm ad cy fr0 c_text m_taped m_size v147_p_m_faultKind v147_p_m_faultPlace m_at m_end m_token m_number m_name c_points c_strands c_units c_told c_ruleFrom c_ruleTo c_code c_eWhat c_eSign m_bank m_rb m_codes m_within m_piled m_unitsInRule m_askStrand m_askTied m_thoughtClaim m_thoughtNeed m_thoughtAll c_roundOf m_acts m_undone m_laid m_firstMove m_seens m_time m_waysNow m_fitting f) → (va_P D vwCl (wl ad f) H) → (va_D A (wl ad f)) → (va_S A s.heap H locs) → (lv_has ls 7 [(5, .int v147_l5), (4, .int v147_l4), (3, .int v147_l3), (2, .int v147_l2), (1, .int v147_l1), (0, .ref (ad 148))]) → W p l e (rmO 2 44 0 0) s m ([.ref (ad 148)] : List Value).toArray below meth c H locs 0 0 (MQ below (va_Qi (fun (r : Int32) (g : Nat → va_E) => ((r = 1) ∨ (r = 0)) ∧ (∃ (m_faultKind' : Int32) (m_faultPlace' : Int32) (m_at' : Int32) (m_end' : Int32) (m_token' : Int32) (m_number' : Int32) (m_name' : Int64) (c_units' : Nat → Int32) (c_code' : Nat → Int32) (c_eWhat' : Nat → Int32) (c_eSign' : Nat → Int32) (m_codes' : Int32) (m_within' : Int32) (m_piled' : Int32) (m_unitsInRule' : Int32), TYm ad cy fr0 c_text m_taped m_size m_faultKind' m_faultPlace' m_at' m_end' m_token' m_number' m_name' c_points c_strands c_units' c_told c_ruleFrom c_ruleTo c_code' c_eWhat' c_eSign' m_bank m_rb m_codes' m_within' m_piled' m_unitsInRule' m_askStrand m_askTied m_thoughtClaim m_thoughtNeed m_thoughtAll c_roundOf m_acts m_undone m_laid m_firstMove m_seens m_time m_waysNow m_fitting g ∧ (0 ≤ m_end'.toInt ∧ m_end'.toInt ≤ 1600) ∧ (1 ≤ m_piled'.toInt ∧ m_piled'.toInt ≤ 90) ∧ ((m_token'.toInt = 0 ∧ m_at'.toInt = m_size.toInt ∧ m_end'.toInt = m_size.toInt) ∨ (1 ≤ m_token'.toInt ∧ m_at'.toInt < m_end'.toInt ∧ m_end'.toInt ≤ m_size.toInt)) ∧ m_at.toInt ≤ m_at'.toInt ∧ (0 ≤ m_within'.toInt ∧ m_within'.toInt ≤ 7 ∧ m_within'.toInt = cQZ c_eWhat' m_piled'.toInt) ∧ (0 ≤ m_unitsInRule'.toInt ∧ m_unitsInRule'.toInt ≤ 30) ∧ ((c_ruleFrom m_rb.toNatClampNeg).toInt = 560 * m_rb.toInt ∧ 0 ≤ m_rb.toInt ∧ m_rb.toInt ≤ 1 ∧ (c_ruleFrom m_rb.toNatClampNeg).toInt ≤ m_codes'.toInt) ∧ (dpZ c_code' (c_ruleFrom m_rb.toNatClampNeg) m_codes'.toInt ≤ m_unitsInRule'.toInt ∧ 0 ≤ cPZ c_eWhat' m_piled'.toInt) ∧ (m_piled'.toInt ≤ 1 + m_within'.toInt + cPZ c_eWhat' m_piled'.toInt ∧ 0 ≤ m_piled'.toInt) ∧ (r.toInt = 1 → (cPZ c_eWhat' m_piled'.toInt ≤ dpZ c_code' (c_ruleFrom m_rb.toNatClampNeg) m_codes'.toInt ∧ m_codes'.toInt - (c_ruleFrom m_rb.toNatClampNeg).toInt + dpZ c_code' (c_ruleFrom m_rb.toNatClampNeg) m_codes'.toInt ≤ 16 * m_unitsInRule'.toInt + m_within'.toInt)) ∧ (r.toInt = 0 → (cPZ c_eWhat' m_piled'.toInt + 1 ≤ dpZ c_code' (c_ruleFrom m_rb.toNatClampNeg) m_codes'.toInt ∧ m_codes'.toInt - (c_ruleFrom m_rb.toNatClampNeg).toInt + dpZ c_code' (c_ruleFrom m_rb.toNatClampNeg) m_codes'.toInt + m_within'.toInt ≤ 16 * m_unitsInRule'.toInt)) ∧ 1 ≤ m_piled'.toInt ∧ (1 ≤ m_faultKind'.toInt ∨ (m_at.toInt < m_at'.toInt ∧ m_piled'.toInt ≤ m_piled.toInt + 1)) ∧ SGp c_eWhat' c_eSign' m_piled'.toInt ∧ okcZ c_code' (c_ruleFrom m_rb.toNatClampNeg) m_codes'.toInt ∧ FrC c_code c_code' m_rb)) (fun g t => PstT D ad g t) A) ([.ref (ad 148)] : List Value).toArray s 0 0 A) (F0 m 147 ls []) := by
    intro f H locs ls v147_l5 v147_l4 v147_l3 v147_l2 v147_l1 v147_p_m_faultKind v147_p_m_faultPlace hv147_l5 hv147_l4 hv147_l3 hv147_l2 hv147_l1 hv147_p_m_end hv147_p_m_piled hJ147_0 hJ147_1 hFr hT hP hD hS hl
    refine lv_aload_n hx hb dX9_unit_147 rfl (lv_at hl 5 rfl) ?_
    obtain ⟨e244, h229, h230, h231, h232, h233, h234, h235, h236, h237, h238, h239, h240, h241, h242, h243⟩ := (show okX9 ad m_taped m_size v147_p_m_faultKind v147_p_m_faultPlace m_at m_end m_token m_number m_name m_bank m_rb m_codes m_within m_piled m_unitsInRule m_askStrand m_askTied m_thoughtClaim m_thoughtNeed m_thoughtAll m_acts m_undone m_laid m_firstMove m_seens m_time m_waysNow m_fitting 148 (f 148) from hT.1 148 (by decide))
    refine tVI (As := []) (rest := []) (i := 148) ⟨hx, hb, hml, hown, hts⟩ hK hE hP hD hS hA hAB (s_X9_isGood_0 l B0 adK adV D cy ad fr0 c_text m_taped m_size v147_p_m_faultKind v147_p_m_faultPlace m_at m_end m_token m_number m_name c_points c_strands c_units c_told c_ruleFrom c_ruleTo c_code c_eWhat c_eSign m_bank m_rb m_codes m_within m_piled m_unitsInRule m_askStrand m_askTied m_thoughtClaim m_thoughtNeed m_thoughtAll c_roundOf m_acts m_undone m_laid m_firstMove m_seens m_time m_waysNow m_fitting f hT _) (cwV 0 hts gX9_unit_X9_isGood rfl rfl rfl (by decide +kernel) ⟨Nat.le_of_ble_eq_true rfl, Nat.le_of_ble_eq_true rfl⟩) (by decide) 9 e244 rfl rfl hl.1 rfl (Nat.le_of_ble_eq_true rfl) dX9_unit_148 ⟨Nat.le_of_ble_eq_true rfl, Nat.le_of_ble_eq_true rfl⟩ (fun r g H locs hw hP hD hS => ?_)
    obtain ⟨hrs, rfl⟩ := hw
    obtain ⟨x245, rfl⟩ : ∃ q, q = r := ⟨_, rfl⟩
    rcases hrs with ⟨rfl, h246⟩ | ⟨rfl, h247⟩
    · refine lv_if_ne (tgt := 156) hx hb dX9_unit_151 (by decide) (fun _ => ?_) (fun c => absurd c (by decide))
      refine lv_aload_n hx hb dX9_unit_156 rfl (lv_at hl 5 rfl) ?_
      refine va_get (D := D) (cl := vwCl) (ci := 9) (v := .ref (ad 153)) (C := RX9) (T := TX9) (N := 64) hx hb hts in_X9_unit_X9 hown hK hP 148 (wl_at (by decide) e244) rfl 13 (by decide) (hts (.fieldLink RX9 27 "EightReasonsModel" "units" "[I") (List.mem_of_getElem? (i := 4) rfl)) (fun _ h9 => h9) rfl dX9_unit_157 ?_
      refine lv_aload_n hx hb dX9_unit_160 rfl (lv_at hl 5 rfl) ?_
      refine va_get (D := D) (cl := vwCl) (ci := 9) (v := .int m_rb) (C := RX9) (T := TX9) (N := 64) hx hb hts in_X9_unit_X9 hown hK hP 148 (wl_at (by decide) e244) rfl 30 (by decide) (hts (.fieldLink RX9 230 "EightReasonsModel" "rb" "I") (List.mem_of_getElem? (i := 5) rfl)) (fun _ h9 => h9) rfl dX9_unit_161 ?_
      refine lv_dup2_11 hx hb dX9_unit_164 rfl rfl ?_
      have e248 : f 153 = _ := (show okIp cy 2 c_units (f 153) from hT.1 153 (by decide))
      refine va_iald hx hb hK hP 153 0 (wl_at (by decide) e248) rfl (vp_in_iff.mpr ⟨by omega, by omega⟩) dX9_unit_165 ?_
      refine lv_topi (fun x249 ex249 => ?_)
      have kx249 := congrArg Int32.toInt ex249
      refine lv_iload_n hx hb dX9_unit_166 rfl (lv_at hl 3 rfl) ?_
      have ttl_0 := tl_0
      refine lv_if_eq (tgt := 174) hx hb dX9_unit_167 (by decide) (fun c250 => ?_) (fun c250 => ?_)
      · have kc250 := c_eq c250
        refine lv_iconst (v := 1) hx hb dX9_unit_174 (by decide) ?_
        have ttl_1 := tl_1
        exact j175 f H locs ls v147_l5 v147_l4 v147_l3 v147_l2 v147_l1 x249 (1 : Int32) v147_p_m_faultKind v147_p_m_faultPlace (by omega) (by omega) (by omega) (by omega) (by omega) (by omega) (by omega) (by omega) (by omega) (by omega) (by omega) (by omega) (by omega) (by omega) (hFr) hT hP hD hS (lv_sub hl [0, 1, 2, 3, 4, 5] rfl)
      · have kc250 := c_ne c250
        refine lv_iconst (v := 0) hx hb dX9_unit_170 (by decide) ?_
        refine lv_goto (tgt := 175) hx hb dX9_unit_171 (by decide) ?_
        exact j175 f H locs ls v147_l5 v147_l4 v147_l3 v147_l2 v147_l1 x249 (0 : Int32) v147_p_m_faultKind v147_p_m_faultPlace (by omega) (by omega) (by omega) (by omega) (by omega) (by omega) (by omega) (by omega) (by omega) (by omega) (by omega) (by omega) (by omega) (by omega) (hFr) hT hP hD hS (lv_sub hl [0, 1, 2, 3, 4, 5] rfl)
    · refine lv_if_ne (tgt := 156) hx hb dX9_unit_151 (by decide) (fun c => absurd (by decide) c) (fun _ => ?_)
      refine lv_iconst (v := 1) hx hb dX9_unit_154 (by decide) ?_
      have ttl_1 := tl_1
      exact tI hx hb hr hlk rfl hP hS ⟨(Or.inl rfl), ⟨v147_p_m_faultKind, v147_p_m_faultPlace, m_at, m_end, m_token, m_number, m_name, c_units, c_code, c_eWhat, c_eSign, m_codes, m_within, m_piled, m_unitsInRule, hT, by omega, by omega, by omega, by omega, by omega, by omega, by omega, by omega, by omega, by omega, by omega, by omega, by omega, hSG, hOK, hFr⟩⟩ dX9_unit_155
  have j143 : ∀ (f : Nat → va_E) (H : Heap) (locs : List Loc) (ls : Array Slot) (v143_l5 : Int32) (v143_l4 : Int32) (v143_l3 : Int32) (v143_l2 : Int32) (v143_l1 : Int32), (0 ≤ v143_l5.toInt ∧ v143_l5.toInt ≤ 1) → (0 ≤ v143_l4.toInt ∧ v143_l4.toInt ≤ 122) → (0 ≤ v143_l3.toInt ∧ v143_l3.toInt ≤ 1) → (0 ≤ v143_l2.toInt ∧ v143_l2.toInt ≤ 1) → (0 ≤ v143_l1.toInt ∧ v143_l1.toInt ≤ 1) → (0 ≤ m_end.toInt ∧ m_end.toInt ≤ 1600) → (1 ≤ m_piled.toInt ∧ m_piled.toInt ≤ 90) → ((v143_l4.toInt = 0 ∨ (97 ≤ v143_l4.toInt ∧ v143_l4.toInt ≤ 122))) → (FrC c_code c_code m_rb) → (TYm ad cy fr0 c_text m_taped m_size m_faultKind m_faultPlace m_at m_end m_token m_number m_name c_points c_strands c_units c_told c_ruleFrom c_ruleTo c_code c_eWhat c_eSign m_bank m_rb m_codes m_within m_piled m_unitsInRule m_askStrand m_askTied m_thoughtClaim m_thoughtNeed m_thoughtAll c_roundOf m_acts m_undone m_laid m_firstMove m_seens m_time m_waysNow m_fitting f) → (va_P D vwCl (wl ad f) H) → (va_D A (wl ad f)) → (va_S A s.heap H locs) → (lv_has ls 7 [(5, .int v143_l5), (4, .int v143_l4), (3, .int v143_l3), (2, .int v143_l2), (1, .int v143_l1), (0, .ref (ad 148))]) → W p l e (rmO 2 44 0 0) s m ([.ref (ad 148)] : List Value).toArray below meth c H locs 0 0 (MQ below (va_Qi (fun (r : Int32) (g : Nat → va_E) => ((r = 1) ∨ (r = 0)) ∧ (∃ (m_faultKind' : Int32) (m_faultPlace' : Int32) (m_at' : Int32) (m_end' : Int32) (m_token' : Int32) (m_number' : Int32) (m_name' : Int64) (c_units' : Nat → Int32) (c_code' : Nat → Int32) (c_eWhat' : Nat → Int32) (c_eSign' : Nat → Int32) (m_codes' : Int32) (m_within' : Int32) (m_piled' : Int32) (m_unitsInRule' : Int32), TYm ad cy fr0 c_text m_taped m_size m_faultKind' m_faultPlace' m_at' m_end' m_token' m_number' m_name' c_points c_strands c_units' c_told c_ruleFrom c_ruleTo c_code' c_eWhat' c_eSign' m_bank m_rb m_codes' m_within' m_piled' m_unitsInRule' m_askStrand m_askTied m_thoughtClaim m_thoughtNeed m_thoughtAll c_roundOf m_acts m_undone m_laid m_firstMove m_seens m_time m_waysNow m_fitting g ∧ (0 ≤ m_end'.toInt ∧ m_end'.toInt ≤ 1600) ∧ (1 ≤ m_piled'.toInt ∧ m_piled'.toInt ≤ 90) ∧ ((m_token'.toInt = 0 ∧ m_at'.toInt = m_size.toInt ∧ m_end'.toInt = m_size.toInt) ∨ (1 ≤ m_token'.toInt ∧ m_at'.toInt < m_end'.toInt ∧ m_end'.toInt ≤ m_size.toInt)) ∧ m_at.toInt ≤ m_at'.toInt ∧ (0 ≤ m_within'.toInt ∧ m_within'.toInt ≤ 7 ∧ m_within'.toInt = cQZ c_eWhat' m_piled'.toInt) ∧ (0 ≤ m_unitsInRule'.toInt ∧ m_unitsInRule'.toInt ≤ 30) ∧ ((c_ruleFrom m_rb.toNatClampNeg).toInt = 560 * m_rb.toInt ∧ 0 ≤ m_rb.toInt ∧ m_rb.toInt ≤ 1 ∧ (c_ruleFrom m_rb.toNatClampNeg).toInt ≤ m_codes'.toInt) ∧ (dpZ c_code' (c_ruleFrom m_rb.toNatClampNeg) m_codes'.toInt ≤ m_unitsInRule'.toInt ∧ 0 ≤ cPZ c_eWhat' m_piled'.toInt) ∧ (m_piled'.toInt ≤ 1 + m_within'.toInt + cPZ c_eWhat' m_piled'.toInt ∧ 0 ≤ m_piled'.toInt) ∧ (r.toInt = 1 → (cPZ c_eWhat' m_piled'.toInt ≤ dpZ c_code' (c_ruleFrom m_rb.toNatClampNeg) m_codes'.toInt ∧ m_codes'.toInt - (c_ruleFrom m_rb.toNatClampNeg).toInt + dpZ c_code' (c_ruleFrom m_rb.toNatClampNeg) m_codes'.toInt ≤ 16 * m_unitsInRule'.toInt + m_within'.toInt)) ∧ (r.toInt = 0 → (cPZ c_eWhat' m_piled'.toInt + 1 ≤ dpZ c_code' (c_ruleFrom m_rb.toNatClampNeg) m_codes'.toInt ∧ m_codes'.toInt - (c_ruleFrom m_rb.toNatClampNeg).toInt + dpZ c_code' (c_ruleFrom m_rb.toNatClampNeg) m_codes'.toInt + m_within'.toInt ≤ 16 * m_unitsInRule'.toInt)) ∧ 1 ≤ m_piled'.toInt ∧ (1 ≤ m_faultKind'.toInt ∨ (m_at.toInt < m_at'.toInt ∧ m_piled'.toInt ≤ m_piled.toInt + 1)) ∧ SGp c_eWhat' c_eSign' m_piled'.toInt ∧ okcZ c_code' (c_ruleFrom m_rb.toNatClampNeg) m_codes'.toInt ∧ FrC c_code c_code' m_rb)) (fun g t => PstT D ad g t) A) ([.ref (ad 148)] : List Value).toArray s 0 0 A) (F0 m 143 ls []) := by
    intro f H locs ls v143_l5 v143_l4 v143_l3 v143_l2 v143_l1 hv143_l5 hv143_l4 hv143_l3 hv143_l2 hv143_l1 hv143_p_m_end hv143_p_m_piled hJ143_0 hFr hT hP hD hS hl
    refine lv_aload_n hx hb dX9_unit_143 rfl (lv_at hl 5 rfl) ?_
    obtain ⟨e266, h251, h252, h253, h254, h255, h256, h257, h258, h259, h260, h261, h262, h263, h264, h265⟩ := (show okX9 ad m_taped m_size m_faultKind m_faultPlace m_at m_end m_token m_number m_name m_bank m_rb m_codes m_within m_piled m_unitsInRule m_askStrand m_askTied m_thoughtClaim m_thoughtNeed m_thoughtAll m_acts m_undone m_laid m_firstMove m_seens m_time m_waysNow m_fitting 148 (f 148) from hT.1 148 (by decide))
    refine tVV (As := []) (rest := []) (i := 148) ⟨hx, hb, hml, hown, hts⟩ hK hE hP hD hS hA hAB (s_X9_misplaced_0 l B0 adK adV D cy ad fr0 c_text m_taped m_size m_faultKind m_faultPlace m_at m_end m_token m_number m_name c_points c_strands c_units c_told c_ruleFrom c_ruleTo c_code c_eWhat c_eSign m_bank m_rb m_codes m_within m_piled m_unitsInRule m_askStrand m_askTied m_thoughtClaim m_thoughtNeed m_thoughtAll c_roundOf m_acts m_undone m_laid m_firstMove m_seens m_time m_waysNow m_fitting f hT _) (cwV 0 hts gX9_unit_X9_misplaced rfl rfl rfl (by decide +kernel) ⟨Nat.le_of_ble_eq_true rfl, Nat.le_of_ble_eq_true rfl⟩) (by decide) 9 e266 rfl rfl hl.1 rfl (Nat.le_of_ble_eq_true rfl) dX9_unit_144 ⟨Nat.le_of_ble_eq_true rfl, Nat.le_of_ble_eq_true rfl⟩ (fun f H locs hw hP hD hS => ?_)
    obtain ⟨hrs, x267, x268, hT, h269⟩ := hw
    obtain ⟨e285, h270, h271, h272, h273, h274, h275, h276, h277, h278, h279, h280, h281, h282, h283, h284⟩ := (show okX9 ad m_taped m_size x267 x268 m_at m_end m_token m_number m_name m_bank m_rb m_codes m_within m_piled m_unitsInRule m_askStrand m_askTied m_thoughtClaim m_thoughtNeed m_thoughtAll m_acts m_undone m_laid m_firstMove m_seens m_time m_waysNow m_fitting 148 (f 148) from hT.1 148 (by decide))
    exact j147 f H locs ls v143_l5 v143_l4 v143_l3 v143_l2 v143_l1 x267 x268 (by omega) (by omega) (by omega) (by omega) (by omega) (by omega) (by omega) (by omega) (by omega) (hFr) hT hP hD hS (lv_sub hl [0, 1, 2, 3, 4, 5] rfl)
  have j134 : ∀ (f : Nat → va_E) (H : Heap) (locs : List Loc) (ls : Array Slot) (v134_l5 : Int32) (v134_l4 : Int32) (v134_l3 : Int32) (v134_l2 : Int32) (v134_l1 : Int32), (0 ≤ v134_l5.toInt ∧ v134_l5.toInt ≤ 1) → (0 ≤ v134_l4.toInt ∧ v134_l4.toInt ≤ 122) → (0 ≤ v134_l3.toInt ∧ v134_l3.toInt ≤ 1) → (0 ≤ v134_l2.toInt ∧ v134_l2.toInt ≤ 1) → (0 ≤ v134_l1.toInt ∧ v134_l1.toInt ≤ 1) → (0 ≤ m_end.toInt ∧ m_end.toInt ≤ 1600) → (1 ≤ m_piled.toInt ∧ m_piled.toInt ≤ 90) → ((v134_l4.toInt = 0 ∨ (97 ≤ v134_l4.toInt ∧ v134_l4.toInt ≤ 122))) → ((v134_l2.toInt = 1 ∨ m_unitsInRule.toInt ≤ 29)) → (1 ≤ m_token.toInt) → (FrC c_code c_code m_rb) → (TYm ad cy fr0 c_text m_taped m_size m_faultKind m_faultPlace m_at m_end m_token m_number m_name c_points c_strands c_units c_told c_ruleFrom c_ruleTo c_code c_eWhat c_eSign m_bank m_rb m_codes m_within m_piled m_unitsInRule m_askStrand m_askTied m_thoughtClaim m_thoughtNeed m_thoughtAll c_roundOf m_acts m_undone m_laid m_firstMove m_seens m_time m_waysNow m_fitting f) → (va_P D vwCl (wl ad f) H) → (va_D A (wl ad f)) → (va_S A s.heap H locs) → (lv_has ls 7 [(5, .int v134_l5), (4, .int v134_l4), (3, .int v134_l3), (2, .int v134_l2), (1, .int v134_l1), (0, .ref (ad 148))]) → W p l e (rmO 2 44 0 0) s m ([.ref (ad 148)] : List Value).toArray below meth c H locs 0 0 (MQ below (va_Qi (fun (r : Int32) (g : Nat → va_E) => ((r = 1) ∨ (r = 0)) ∧ (∃ (m_faultKind' : Int32) (m_faultPlace' : Int32) (m_at' : Int32) (m_end' : Int32) (m_token' : Int32) (m_number' : Int32) (m_name' : Int64) (c_units' : Nat → Int32) (c_code' : Nat → Int32) (c_eWhat' : Nat → Int32) (c_eSign' : Nat → Int32) (m_codes' : Int32) (m_within' : Int32) (m_piled' : Int32) (m_unitsInRule' : Int32), TYm ad cy fr0 c_text m_taped m_size m_faultKind' m_faultPlace' m_at' m_end' m_token' m_number' m_name' c_points c_strands c_units' c_told c_ruleFrom c_ruleTo c_code' c_eWhat' c_eSign' m_bank m_rb m_codes' m_within' m_piled' m_unitsInRule' m_askStrand m_askTied m_thoughtClaim m_thoughtNeed m_thoughtAll c_roundOf m_acts m_undone m_laid m_firstMove m_seens m_time m_waysNow m_fitting g ∧ (0 ≤ m_end'.toInt ∧ m_end'.toInt ≤ 1600) ∧ (1 ≤ m_piled'.toInt ∧ m_piled'.toInt ≤ 90) ∧ ((m_token'.toInt = 0 ∧ m_at'.toInt = m_size.toInt ∧ m_end'.toInt = m_size.toInt) ∨ (1 ≤ m_token'.toInt ∧ m_at'.toInt < m_end'.toInt ∧ m_end'.toInt ≤ m_size.toInt)) ∧ m_at.toInt ≤ m_at'.toInt ∧ (0 ≤ m_within'.toInt ∧ m_within'.toInt ≤ 7 ∧ m_within'.toInt = cQZ c_eWhat' m_piled'.toInt) ∧ (0 ≤ m_unitsInRule'.toInt ∧ m_unitsInRule'.toInt ≤ 30) ∧ ((c_ruleFrom m_rb.toNatClampNeg).toInt = 560 * m_rb.toInt ∧ 0 ≤ m_rb.toInt ∧ m_rb.toInt ≤ 1 ∧ (c_ruleFrom m_rb.toNatClampNeg).toInt ≤ m_codes'.toInt) ∧ (dpZ c_code' (c_ruleFrom m_rb.toNatClampNeg) m_codes'.toInt ≤ m_unitsInRule'.toInt ∧ 0 ≤ cPZ c_eWhat' m_piled'.toInt) ∧ (m_piled'.toInt ≤ 1 + m_within'.toInt + cPZ c_eWhat' m_piled'.toInt ∧ 0 ≤ m_piled'.toInt) ∧ (r.toInt = 1 → (cPZ c_eWhat' m_piled'.toInt ≤ dpZ c_code' (c_ruleFrom m_rb.toNatClampNeg) m_codes'.toInt ∧ m_codes'.toInt - (c_ruleFrom m_rb.toNatClampNeg).toInt + dpZ c_code' (c_ruleFrom m_rb.toNatClampNeg) m_codes'.toInt ≤ 16 * m_unitsInRule'.toInt + m_within'.toInt)) ∧ (r.toInt = 0 → (cPZ c_eWhat' m_piled'.toInt + 1 ≤ dpZ c_code' (c_ruleFrom m_rb.toNatClampNeg) m_codes'.toInt ∧ m_codes'.toInt - (c_ruleFrom m_rb.toNatClampNeg).toInt + dpZ c_code' (c_ruleFrom m_rb.toNatClampNeg) m_codes'.toInt + m_within'.toInt ≤ 16 * m_unitsInRule'.toInt)) ∧ 1 ≤ m_piled'.toInt ∧ (1 ≤ m_faultKind'.toInt ∨ (m_at.toInt < m_at'.toInt ∧ m_piled'.toInt ≤ m_piled.toInt + 1)) ∧ SGp c_eWhat' c_eSign' m_piled'.toInt ∧ okcZ c_code' (c_ruleFrom m_rb.toNatClampNeg) m_codes'.toInt ∧ FrC c_code c_code' m_rb)) (fun g t => PstT D ad g t) A) ([.ref (ad 148)] : List Value).toArray s 0 0 A) (F0 m 134 ls []) := by
    intro f H locs ls v134_l5 v134_l4 v134_l3 v134_l2 v134_l1 hv134_l5 hv134_l4 hv134_l3 hv134_l2 hv134_l1 hv134_p_m_end hv134_p_m_piled hJ134_0 hJ134_1 hJ134_2 hFr hT hP hD hS hl
    refine lv_aload_n hx hb dX9_unit_134 rfl (lv_at hl 5 rfl) ?_
    obtain ⟨e301, h286, h287, h288, h289, h290, h291, h292, h293, h294, h295, h296, h297, h298, h299, h300⟩ := (show okX9 ad m_taped m_size m_faultKind m_faultPlace m_at m_end m_token m_number m_name m_bank m_rb m_codes m_within m_piled m_unitsInRule m_askStrand m_askTied m_thoughtClaim m_thoughtNeed m_thoughtAll m_acts m_undone m_laid m_firstMove m_seens m_time m_waysNow m_fitting 148 (f 148) from hT.1 148 (by decide))
    refine va_get (D := D) (cl := vwCl) (ci := 9) (v := .int m_within) (C := RX9) (T := TX9) (N := 64) hx hb hts in_X9_unit_X9 hown hK hP 148 (wl_at (by decide) e301) rfl 32 (by decide) (hts (.fieldLink RX9 288 "EightReasonsModel" "within" "I") (List.mem_of_getElem? (i := 8) rfl)) (fun _ h9 => h9) rfl dX9_unit_135 ?_
    refine lv_bipush (v := 7) hx hb dX9_unit_138 (by decide) ?_
    have ttl_7 := tl_7
    refine lv_icmp_ne (tgt := 147) hx hb dX9_unit_140 (by decide) (fun c302 => ?_) (fun c302 => ?_)
    · have kc302 := c_ne c302
      exact j147 f H locs ls v134_l5 v134_l4 v134_l3 v134_l2 v134_l1 m_faultKind m_faultPlace (by omega) (by omega) (by omega) (by omega) (by omega) (by omega) (by omega) (by omega) (by omega) (hFr) hT hP hD hS (lv_sub hl [0, 1, 2, 3, 4, 5] rfl)
    · have kc302 := c_eq c302
      exact j143 f H locs ls v134_l5 v134_l4 v134_l3 v134_l2 v134_l1 (by omega) (by omega) (by omega) (by omega) (by omega) (by omega) (by omega) (by omega) (hFr) hT hP hD hS (lv_sub hl [0, 1, 2, 3, 4, 5] rfl)
  have j126 : ∀ (f : Nat → va_E) (H : Heap) (locs : List Loc) (ls : Array Slot) (v126_l5 : Int32) (v126_l4 : Int32) (v126_l3 : Int32) (v126_l2 : Int32) (v126_l1 : Int32), (0 ≤ v126_l5.toInt ∧ v126_l5.toInt ≤ 1) → (0 ≤ v126_l4.toInt ∧ v126_l4.toInt ≤ 122) → (0 ≤ v126_l3.toInt ∧ v126_l3.toInt ≤ 1) → (0 ≤ v126_l2.toInt ∧ v126_l2.toInt ≤ 1) → (0 ≤ v126_l1.toInt ∧ v126_l1.toInt ≤ 1) → (0 ≤ m_end.toInt ∧ m_end.toInt ≤ 1600) → (1 ≤ m_piled.toInt ∧ m_piled.toInt ≤ 90) → ((v126_l4.toInt = 0 ∨ (97 ≤ v126_l4.toInt ∧ v126_l4.toInt ≤ 122))) → ((v126_l2.toInt = 1 ∨ m_unitsInRule.toInt ≤ 29)) → (1 ≤ m_token.toInt) → (FrC c_code c_code m_rb) → (TYm ad cy fr0 c_text m_taped m_size m_faultKind m_faultPlace m_at m_end m_token m_number m_name c_points c_strands c_units c_told c_ruleFrom c_ruleTo c_code c_eWhat c_eSign m_bank m_rb m_codes m_within m_piled m_unitsInRule m_askStrand m_askTied m_thoughtClaim m_thoughtNeed m_thoughtAll c_roundOf m_acts m_undone m_laid m_firstMove m_seens m_time m_waysNow m_fitting f) → (va_P D vwCl (wl ad f) H) → (va_D A (wl ad f)) → (va_S A s.heap H locs) → (lv_has ls 7 [(5, .int v126_l5), (4, .int v126_l4), (3, .int v126_l3), (2, .int v126_l2), (1, .int v126_l1), (0, .ref (ad 148))]) → W p l e (rmO 2 44 0 0) s m ([.ref (ad 148)] : List Value).toArray below meth c H locs 0 0 (MQ below (va_Qi (fun (r : Int32) (g : Nat → va_E) => ((r = 1) ∨ (r = 0)) ∧ (∃ (m_faultKind' : Int32) (m_faultPlace' : Int32) (m_at' : Int32) (m_end' : Int32) (m_token' : Int32) (m_number' : Int32) (m_name' : Int64) (c_units' : Nat → Int32) (c_code' : Nat → Int32) (c_eWhat' : Nat → Int32) (c_eSign' : Nat → Int32) (m_codes' : Int32) (m_within' : Int32) (m_piled' : Int32) (m_unitsInRule' : Int32), TYm ad cy fr0 c_text m_taped m_size m_faultKind' m_faultPlace' m_at' m_end' m_token' m_number' m_name' c_points c_strands c_units' c_told c_ruleFrom c_ruleTo c_code' c_eWhat' c_eSign' m_bank m_rb m_codes' m_within' m_piled' m_unitsInRule' m_askStrand m_askTied m_thoughtClaim m_thoughtNeed m_thoughtAll c_roundOf m_acts m_undone m_laid m_firstMove m_seens m_time m_waysNow m_fitting g ∧ (0 ≤ m_end'.toInt ∧ m_end'.toInt ≤ 1600) ∧ (1 ≤ m_piled'.toInt ∧ m_piled'.toInt ≤ 90) ∧ ((m_token'.toInt = 0 ∧ m_at'.toInt = m_size.toInt ∧ m_end'.toInt = m_size.toInt) ∨ (1 ≤ m_token'.toInt ∧ m_at'.toInt < m_end'.toInt ∧ m_end'.toInt ≤ m_size.toInt)) ∧ m_at.toInt ≤ m_at'.toInt ∧ (0 ≤ m_within'.toInt ∧ m_within'.toInt ≤ 7 ∧ m_within'.toInt = cQZ c_eWhat' m_piled'.toInt) ∧ (0 ≤ m_unitsInRule'.toInt ∧ m_unitsInRule'.toInt ≤ 30) ∧ ((c_ruleFrom m_rb.toNatClampNeg).toInt = 560 * m_rb.toInt ∧ 0 ≤ m_rb.toInt ∧ m_rb.toInt ≤ 1 ∧ (c_ruleFrom m_rb.toNatClampNeg).toInt ≤ m_codes'.toInt) ∧ (dpZ c_code' (c_ruleFrom m_rb.toNatClampNeg) m_codes'.toInt ≤ m_unitsInRule'.toInt ∧ 0 ≤ cPZ c_eWhat' m_piled'.toInt) ∧ (m_piled'.toInt ≤ 1 + m_within'.toInt + cPZ c_eWhat' m_piled'.toInt ∧ 0 ≤ m_piled'.toInt) ∧ (r.toInt = 1 → (cPZ c_eWhat' m_piled'.toInt ≤ dpZ c_code' (c_ruleFrom m_rb.toNatClampNeg) m_codes'.toInt ∧ m_codes'.toInt - (c_ruleFrom m_rb.toNatClampNeg).toInt + dpZ c_code' (c_ruleFrom m_rb.toNatClampNeg) m_codes'.toInt ≤ 16 * m_unitsInRule'.toInt + m_within'.toInt)) ∧ (r.toInt = 0 → (cPZ c_eWhat' m_piled'.toInt + 1 ≤ dpZ c_code' (c_ruleFrom m_rb.toNatClampNeg) m_codes'.toInt ∧ m_codes'.toInt - (c_ruleFrom m_rb.toNatClampNeg).toInt + dpZ c_code' (c_ruleFrom m_rb.toNatClampNeg) m_codes'.toInt + m_within'.toInt ≤ 16 * m_unitsInRule'.toInt)) ∧ 1 ≤ m_piled'.toInt ∧ (1 ≤ m_faultKind'.toInt ∨ (m_at.toInt < m_at'.toInt ∧ m_piled'.toInt ≤ m_piled.toInt + 1)) ∧ SGp c_eWhat' c_eSign' m_piled'.toInt ∧ okcZ c_code' (c_ruleFrom m_rb.toNatClampNeg) m_codes'.toInt ∧ FrC c_code c_code' m_rb)) (fun g t => PstT D ad g t) A) ([.ref (ad 148)] : List Value).toArray s 0 0 A) (F0 m 126 ls []) := by
    intro f H locs ls v126_l5 v126_l4 v126_l3 v126_l2 v126_l1 hv126_l5 hv126_l4 hv126_l3 hv126_l2 hv126_l1 hv126_p_m_end hv126_p_m_piled hJ126_0 hJ126_1 hJ126_2 hFr hT hP hD hS hl
    refine lv_iload_n hx hb dX9_unit_126 rfl (lv_at hl 3 rfl) ?_
    have ttl_0 := tl_0
    refine lv_if_ne (tgt := 134) hx hb dX9_unit_127 (by decide) (fun c303 => ?_) (fun c303 => ?_)
    · have kc303 := c_ne c303
      obtain ⟨e319, h304, h305, h306, h307, h308, h309, h310, h311, h312, h313, h314, h315, h316, h317, h318⟩ := (show okX9 ad m_taped m_size m_faultKind m_faultPlace m_at m_end m_token m_number m_name m_bank m_rb m_codes m_within m_piled m_unitsInRule m_askStrand m_askTied m_thoughtClaim m_thoughtNeed m_thoughtAll m_acts m_undone m_laid m_firstMove m_seens m_time m_waysNow m_fitting 148 (f 148) from hT.1 148 (by decide))
      exact j134 f H locs ls v126_l5 v126_l4 v126_l3 v126_l2 v126_l1 (by omega) (by omega) (by omega) (by omega) (by omega) (by omega) (by omega) (by omega) (by omega) (by omega) (hFr) hT hP hD hS (lv_sub hl [0, 1, 2, 3, 4, 5] rfl)
    · have kc303 := c_eq c303
      refine lv_iload_n hx hb dX9_unit_130 rfl (lv_at hl 2 rfl) ?_
      refine lv_if_eq (tgt := 147) hx hb dX9_unit_131 (by decide) (fun c320 => ?_) (fun c320 => ?_)
      · have kc320 := c_eq c320
        obtain ⟨e336, h321, h322, h323, h324, h325, h326, h327, h328, h329, h330, h331, h332, h333, h334, h335⟩ := (show okX9 ad m_taped m_size m_faultKind m_faultPlace m_at m_end m_token m_number m_name m_bank m_rb m_codes m_within m_piled m_unitsInRule m_askStrand m_askTied m_thoughtClaim m_thoughtNeed m_thoughtAll m_acts m_undone m_laid m_firstMove m_seens m_time m_waysNow m_fitting 148 (f 148) from hT.1 148 (by decide))
        exact j147 f H locs ls v126_l5 v126_l4 v126_l3 v126_l2 v126_l1 m_faultKind m_faultPlace (by omega) (by omega) (by omega) (by omega) (by omega) (by omega) (by omega) (by omega) (by omega) (hFr) hT hP hD hS (lv_sub hl [0, 1, 2, 3, 4, 5] rfl)
      · have kc320 := c_ne c320
        obtain ⟨e352, h337, h338, h339, h340, h341, h342, h343, h344, h345, h346, h347, h348, h349, h350, h351⟩ := (show okX9 ad m_taped m_size m_faultKind m_faultPlace m_at m_end m_token m_number m_name m_bank m_rb m_codes m_within m_piled m_unitsInRule m_askStrand m_askTied m_thoughtClaim m_thoughtNeed m_thoughtAll m_acts m_undone m_laid m_firstMove m_seens m_time m_waysNow m_fitting 148 (f 148) from hT.1 148 (by decide))
        exact j134 f H locs ls v126_l5 v126_l4 v126_l3 v126_l2 v126_l1 (by omega) (by omega) (by omega) (by omega) (by omega) (by omega) (by omega) (by omega) (by omega) (by omega) (hFr) hT hP hD hS (lv_sub hl [0, 1, 2, 3, 4, 5] rfl)
  have j121 : ∀ (f : Nat → va_E) (H : Heap) (locs : List Loc) (ls : Array Slot) (v121_l5 : Int32) (v121_l4 : Int32) (v121_l3 : Int32) (v121_l2 : Int32) (v121_l1 : Int32), (0 ≤ v121_l5.toInt ∧ v121_l5.toInt ≤ 1) → (0 ≤ v121_l4.toInt ∧ v121_l4.toInt ≤ 122) → (0 ≤ v121_l3.toInt ∧ v121_l3.toInt ≤ 1) → (0 ≤ v121_l2.toInt ∧ v121_l2.toInt ≤ 0) → (0 ≤ v121_l1.toInt ∧ v121_l1.toInt ≤ 1) → (0 ≤ m_end.toInt ∧ m_end.toInt ≤ 1600) → (1 ≤ m_piled.toInt ∧ m_piled.toInt ≤ 90) → ((v121_l4.toInt = 0 ∨ (97 ≤ v121_l4.toInt ∧ v121_l4.toInt ≤ 122))) → ((v121_l5.toInt = 0 → m_unitsInRule.toInt ≤ 29)) → (v121_l2.toInt = 0) → (1 ≤ m_token.toInt) → (FrC c_code c_code m_rb) → (TYm ad cy fr0 c_text m_taped m_size m_faultKind m_faultPlace m_at m_end m_token m_number m_name c_points c_strands c_units c_told c_ruleFrom c_ruleTo c_code c_eWhat c_eSign m_bank m_rb m_codes m_within m_piled m_unitsInRule m_askStrand m_askTied m_thoughtClaim m_thoughtNeed m_thoughtAll c_roundOf m_acts m_undone m_laid m_firstMove m_seens m_time m_waysNow m_fitting f) → (va_P D vwCl (wl ad f) H) → (va_D A (wl ad f)) → (va_S A s.heap H locs) → (lv_has ls 7 [(5, .int v121_l5), (4, .int v121_l4), (3, .int v121_l3), (2, .int v121_l2), (1, .int v121_l1), (0, .ref (ad 148))]) → W p l e (rmO 2 44 0 0) s m ([.ref (ad 148)] : List Value).toArray below meth c H locs 0 0 (MQ below (va_Qi (fun (r : Int32) (g : Nat → va_E) => ((r = 1) ∨ (r = 0)) ∧ (∃ (m_faultKind' : Int32) (m_faultPlace' : Int32) (m_at' : Int32) (m_end' : Int32) (m_token' : Int32) (m_number' : Int32) (m_name' : Int64) (c_units' : Nat → Int32) (c_code' : Nat → Int32) (c_eWhat' : Nat → Int32) (c_eSign' : Nat → Int32) (m_codes' : Int32) (m_within' : Int32) (m_piled' : Int32) (m_unitsInRule' : Int32), TYm ad cy fr0 c_text m_taped m_size m_faultKind' m_faultPlace' m_at' m_end' m_token' m_number' m_name' c_points c_strands c_units' c_told c_ruleFrom c_ruleTo c_code' c_eWhat' c_eSign' m_bank m_rb m_codes' m_within' m_piled' m_unitsInRule' m_askStrand m_askTied m_thoughtClaim m_thoughtNeed m_thoughtAll c_roundOf m_acts m_undone m_laid m_firstMove m_seens m_time m_waysNow m_fitting g ∧ (0 ≤ m_end'.toInt ∧ m_end'.toInt ≤ 1600) ∧ (1 ≤ m_piled'.toInt ∧ m_piled'.toInt ≤ 90) ∧ ((m_token'.toInt = 0 ∧ m_at'.toInt = m_size.toInt ∧ m_end'.toInt = m_size.toInt) ∨ (1 ≤ m_token'.toInt ∧ m_at'.toInt < m_end'.toInt ∧ m_end'.toInt ≤ m_size.toInt)) ∧ m_at.toInt ≤ m_at'.toInt ∧ (0 ≤ m_within'.toInt ∧ m_within'.toInt ≤ 7 ∧ m_within'.toInt = cQZ c_eWhat' m_piled'.toInt) ∧ (0 ≤ m_unitsInRule'.toInt ∧ m_unitsInRule'.toInt ≤ 30) ∧ ((c_ruleFrom m_rb.toNatClampNeg).toInt = 560 * m_rb.toInt ∧ 0 ≤ m_rb.toInt ∧ m_rb.toInt ≤ 1 ∧ (c_ruleFrom m_rb.toNatClampNeg).toInt ≤ m_codes'.toInt) ∧ (dpZ c_code' (c_ruleFrom m_rb.toNatClampNeg) m_codes'.toInt ≤ m_unitsInRule'.toInt ∧ 0 ≤ cPZ c_eWhat' m_piled'.toInt) ∧ (m_piled'.toInt ≤ 1 + m_within'.toInt + cPZ c_eWhat' m_piled'.toInt ∧ 0 ≤ m_piled'.toInt) ∧ (r.toInt = 1 → (cPZ c_eWhat' m_piled'.toInt ≤ dpZ c_code' (c_ruleFrom m_rb.toNatClampNeg) m_codes'.toInt ∧ m_codes'.toInt - (c_ruleFrom m_rb.toNatClampNeg).toInt + dpZ c_code' (c_ruleFrom m_rb.toNatClampNeg) m_codes'.toInt ≤ 16 * m_unitsInRule'.toInt + m_within'.toInt)) ∧ (r.toInt = 0 → (cPZ c_eWhat' m_piled'.toInt + 1 ≤ dpZ c_code' (c_ruleFrom m_rb.toNatClampNeg) m_codes'.toInt ∧ m_codes'.toInt - (c_ruleFrom m_rb.toNatClampNeg).toInt + dpZ c_code' (c_ruleFrom m_rb.toNatClampNeg) m_codes'.toInt + m_within'.toInt ≤ 16 * m_unitsInRule'.toInt)) ∧ 1 ≤ m_piled'.toInt ∧ (1 ≤ m_faultKind'.toInt ∨ (m_at.toInt < m_at'.toInt ∧ m_piled'.toInt ≤ m_piled.toInt + 1)) ∧ SGp c_eWhat' c_eSign' m_piled'.toInt ∧ okcZ c_code' (c_ruleFrom m_rb.toNatClampNeg) m_codes'.toInt ∧ FrC c_code c_code' m_rb)) (fun g t => PstT D ad g t) A) ([.ref (ad 148)] : List Value).toArray s 0 0 A) (F0 m 121 ls []) := by
    intro f H locs ls v121_l5 v121_l4 v121_l3 v121_l2 v121_l1 hv121_l5 hv121_l4 hv121_l3 hv121_l2 hv121_l1 hv121_p_m_end hv121_p_m_piled hJ121_0 hJ121_1 hJ121_2 hJ121_3 hFr hT hP hD hS hl
    refine lv_iload hx hb dX9_unit_121 (lv_at hl 0 rfl) ?_
    have ttl_0 := tl_0
    refine lv_if_ne (tgt := 143) hx hb dX9_unit_123 (by decide) (fun c353 => ?_) (fun c353 => ?_)
    · have kc353 := c_ne c353
      obtain ⟨e369, h354, h355, h356, h357, h358, h359, h360, h361, h362, h363, h364, h365, h366, h367, h368⟩ := (show okX9 ad m_taped m_size m_faultKind m_faultPlace m_at m_end m_token m_number m_name m_bank m_rb m_codes m_within m_piled m_unitsInRule m_askStrand m_askTied m_thoughtClaim m_thoughtNeed m_thoughtAll m_acts m_undone m_laid m_firstMove m_seens m_time m_waysNow m_fitting 148 (f 148) from hT.1 148 (by decide))
      exact j143 f H locs ls v121_l5 v121_l4 v121_l3 v121_l2 v121_l1 (by omega) (by omega) (by omega) (by omega) (by omega) (by omega) (by omega) (by omega) (hFr) hT hP hD hS (lv_sub hl [0, 1, 2, 3, 4, 5] rfl)
    · have kc353 := c_eq c353
      obtain ⟨e385, h370, h371, h372, h373, h374, h375, h376, h377, h378, h379, h380, h381, h382, h383, h384⟩ := (show okX9 ad m_taped m_size m_faultKind m_faultPlace m_at m_end m_token m_number m_name m_bank m_rb m_codes m_within m_piled m_unitsInRule m_askStrand m_askTied m_thoughtClaim m_thoughtNeed m_thoughtAll m_acts m_undone m_laid m_firstMove m_seens m_time m_waysNow m_fitting 148 (f 148) from hT.1 148 (by decide))
      exact j126 f H locs ls v121_l5 v121_l4 v121_l3 v121_l2 v121_l1 (by omega) (by omega) (by omega) (by omega) (by omega) (by omega) (by omega) (by omega) (by omega) (by omega) (hFr) hT hP hD hS (lv_sub hl [0, 1, 2, 3, 4, 5] rfl)
  have j98 : ∀ (f : Nat → va_E) (H : Heap) (locs : List Loc) (ls : Array Slot) (v98_l4 : Int32) (v98_l3 : Int32) (v98_l2 : Int32) (v98_l1 : Int32) (v98_s0 : Int32), (0 ≤ v98_l4.toInt ∧ v98_l4.toInt ≤ 122) → (0 ≤ v98_l3.toInt ∧ v98_l3.toInt ≤ 1) → (0 ≤ v98_l2.toInt ∧ v98_l2.toInt ≤ 1) → (0 ≤ v98_l1.toInt ∧ v98_l1.toInt ≤ 1) → (0 ≤ v98_s0.toInt ∧ v98_s0.toInt ≤ 1) → (0 ≤ m_end.toInt ∧ m_end.toInt ≤ 1600) → (1 ≤ m_piled.toInt ∧ m_piled.toInt ≤ 90) → ((v98_l4.toInt = 0 ∨ (97 ≤ v98_l4.toInt ∧ v98_l4.toInt ≤ 122))) → ((v98_l2.toInt = 1 → 1 ≤ m_token.toInt)) → ((v98_l3.toInt = 1 → 1 ≤ m_token.toInt)) → ((v98_l4.toInt = 0 ∨ 1 ≤ m_token.toInt)) → ((v98_s0.toInt = 0 → m_unitsInRule.toInt ≤ 29)) → (FrC c_code c_code m_rb) → (TYm ad cy fr0 c_text m_taped m_size m_faultKind m_faultPlace m_at m_end m_token m_number m_name c_points c_strands c_units c_told c_ruleFrom c_ruleTo c_code c_eWhat c_eSign m_bank m_rb m_codes m_within m_piled m_unitsInRule m_askStrand m_askTied m_thoughtClaim m_thoughtNeed m_thoughtAll c_roundOf m_acts m_undone m_laid m_firstMove m_seens m_time m_waysNow m_fitting f) → (va_P D vwCl (wl ad f) H) → (va_D A (wl ad f)) → (va_S A s.heap H locs) → (lv_has ls 7 [(4, .int v98_l4), (3, .int v98_l3), (2, .int v98_l2), (1, .int v98_l1), (0, .ref (ad 148))]) → W p l e (rmO 2 44 0 0) s m ([.ref (ad 148)] : List Value).toArray below meth c H locs 0 0 (MQ below (va_Qi (fun (r : Int32) (g : Nat → va_E) => ((r = 1) ∨ (r = 0)) ∧ (∃ (m_faultKind' : Int32) (m_faultPlace' : Int32) (m_at' : Int32) (m_end' : Int32) (m_token' : Int32) (m_number' : Int32) (m_name' : Int64) (c_units' : Nat → Int32) (c_code' : Nat → Int32) (c_eWhat' : Nat → Int32) (c_eSign' : Nat → Int32) (m_codes' : Int32) (m_within' : Int32) (m_piled' : Int32) (m_unitsInRule' : Int32), TYm ad cy fr0 c_text m_taped m_size m_faultKind' m_faultPlace' m_at' m_end' m_token' m_number' m_name' c_points c_strands c_units' c_told c_ruleFrom c_ruleTo c_code' c_eWhat' c_eSign' m_bank m_rb m_codes' m_within' m_piled' m_unitsInRule' m_askStrand m_askTied m_thoughtClaim m_thoughtNeed m_thoughtAll c_roundOf m_acts m_undone m_laid m_firstMove m_seens m_time m_waysNow m_fitting g ∧ (0 ≤ m_end'.toInt ∧ m_end'.toInt ≤ 1600) ∧ (1 ≤ m_piled'.toInt ∧ m_piled'.toInt ≤ 90) ∧ ((m_token'.toInt = 0 ∧ m_at'.toInt = m_size.toInt ∧ m_end'.toInt = m_size.toInt) ∨ (1 ≤ m_token'.toInt ∧ m_at'.toInt < m_end'.toInt ∧ m_end'.toInt ≤ m_size.toInt)) ∧ m_at.toInt ≤ m_at'.toInt ∧ (0 ≤ m_within'.toInt ∧ m_within'.toInt ≤ 7 ∧ m_within'.toInt = cQZ c_eWhat' m_piled'.toInt) ∧ (0 ≤ m_unitsInRule'.toInt ∧ m_unitsInRule'.toInt ≤ 30) ∧ ((c_ruleFrom m_rb.toNatClampNeg).toInt = 560 * m_rb.toInt ∧ 0 ≤ m_rb.toInt ∧ m_rb.toInt ≤ 1 ∧ (c_ruleFrom m_rb.toNatClampNeg).toInt ≤ m_codes'.toInt) ∧ (dpZ c_code' (c_ruleFrom m_rb.toNatClampNeg) m_codes'.toInt ≤ m_unitsInRule'.toInt ∧ 0 ≤ cPZ c_eWhat' m_piled'.toInt) ∧ (m_piled'.toInt ≤ 1 + m_within'.toInt + cPZ c_eWhat' m_piled'.toInt ∧ 0 ≤ m_piled'.toInt) ∧ (r.toInt = 1 → (cPZ c_eWhat' m_piled'.toInt ≤ dpZ c_code' (c_ruleFrom m_rb.toNatClampNeg) m_codes'.toInt ∧ m_codes'.toInt - (c_ruleFrom m_rb.toNatClampNeg).toInt + dpZ c_code' (c_ruleFrom m_rb.toNatClampNeg) m_codes'.toInt ≤ 16 * m_unitsInRule'.toInt + m_within'.toInt)) ∧ (r.toInt = 0 → (cPZ c_eWhat' m_piled'.toInt + 1 ≤ dpZ c_code' (c_ruleFrom m_rb.toNatClampNeg) m_codes'.toInt ∧ m_codes'.toInt - (c_ruleFrom m_rb.toNatClampNeg).toInt + dpZ c_code' (c_ruleFrom m_rb.toNatClampNeg) m_codes'.toInt + m_within'.toInt ≤ 16 * m_unitsInRule'.toInt)) ∧ 1 ≤ m_piled'.toInt ∧ (1 ≤ m_faultKind'.toInt ∨ (m_at.toInt < m_at'.toInt ∧ m_piled'.toInt ≤ m_piled.toInt + 1)) ∧ SGp c_eWhat' c_eSign' m_piled'.toInt ∧ okcZ c_code' (c_ruleFrom m_rb.toNatClampNeg) m_codes'.toInt ∧ FrC c_code c_code' m_rb)) (fun g t => PstT D ad g t) A) ([.ref (ad 148)] : List Value).toArray s 0 0 A) (F0 m 98 ls [.int v98_s0]) := by
    intro f H locs ls v98_l4 v98_l3 v98_l2 v98_l1 v98_s0 hv98_l4 hv98_l3 hv98_l2 hv98_l1 hv98_s0 hv98_p_m_end hv98_p_m_piled hJ98_0 hJ98_1 hJ98_2 hJ98_3 hJ98_4 hFr hT hP hD hS hl
    refine lv_istore (lv' := [(5, .int v98_s0), (4, .int v98_l4), (3, .int v98_l3), (2, .int v98_l2), (1, .int v98_l1), (0, .ref (ad 148))]) hx hb dX9_unit_98 hl (by decide) rfl (fun ls hl => ?_)
    refine lv_iload_n hx hb dX9_unit_100 rfl (lv_at hl 3 rfl) ?_
    have ttl_0 := tl_0
    refine lv_if_ne (tgt := 126) hx hb dX9_unit_101 (by decide) (fun c386 => ?_) (fun c386 => ?_)
    · have kc386 := c_ne c386
      obtain ⟨e402, h387, h388, h389, h390, h391, h392, h393, h394, h395, h396, h397, h398, h399, h400, h401⟩ := (show okX9 ad m_taped m_size m_faultKind m_faultPlace m_at m_end m_token m_number m_name m_bank m_rb m_codes m_within m_piled m_unitsInRule m_askStrand m_askTied m_thoughtClaim m_thoughtNeed m_thoughtAll m_acts m_undone m_laid m_firstMove m_seens m_time m_waysNow m_fitting 148 (f 148) from hT.1 148 (by decide))
      exact j126 f H locs ls v98_s0 v98_l4 v98_l3 v98_l2 v98_l1 (by omega) (by omega) (by omega) (by omega) (by omega) (by omega) (by omega) (by omega) (by omega) (by omega) (hFr) hT hP hD hS (lv_sub hl [0, 1, 2, 3, 4, 5] rfl)
    · have kc386 := c_eq c386
      refine lv_iload hx hb dX9_unit_104 (lv_at hl 1 rfl) ?_
      refine lv_if_ne (tgt := 121) hx hb dX9_unit_106 (by decide) (fun c403 => ?_) (fun c403 => ?_)
      · have kc403 := c_ne c403
        obtain ⟨e419, h404, h405, h406, h407, h408, h409, h410, h411, h412, h413, h414, h415, h416, h417, h418⟩ := (show okX9 ad m_taped m_size m_faultKind m_faultPlace m_at m_end m_token m_number m_name m_bank m_rb m_codes m_within m_piled m_unitsInRule m_askStrand m_askTied m_thoughtClaim m_thoughtNeed m_thoughtAll m_acts m_undone m_laid m_firstMove m_seens m_time m_waysNow m_fitting 148 (f 148) from hT.1 148 (by decide))
        exact j121 f H locs ls v98_s0 v98_l4 v98_l3 v98_l2 v98_l1 (by omega) (by omega) (by omega) (by omega) (by omega) (by omega) (by omega) (by omega) (by omega) (by omega) (by omega) (hFr) hT hP hD hS (lv_sub hl [0, 1, 2, 3, 4, 5] rfl)
      · have kc403 := c_eq c403
        refine lv_aload_n hx hb dX9_unit_109 rfl (lv_at hl 5 rfl) ?_
        obtain ⟨e435, h420, h421, h422, h423, h424, h425, h426, h427, h428, h429, h430, h431, h432, h433, h434⟩ := (show okX9 ad m_taped m_size m_faultKind m_faultPlace m_at m_end m_token m_number m_name m_bank m_rb m_codes m_within m_piled m_unitsInRule m_askStrand m_askTied m_thoughtClaim m_thoughtNeed m_thoughtAll m_acts m_undone m_laid m_firstMove m_seens m_time m_waysNow m_fitting 148 (f 148) from hT.1 148 (by decide))
        refine va_get (D := D) (cl := vwCl) (ci := 9) (v := .int m_token) (C := RX9) (T := TX9) (N := 64) hx hb hts in_X9_unit_X9 hown hK hP 148 (wl_at (by decide) e435) rfl 8 (by decide) (hts (.fieldLink RX9 181 "EightReasonsModel" "token" "I") (List.mem_of_getElem? (i := 7) rfl)) (fun _ h9 => h9) rfl dX9_unit_110 ?_
        refine lv_iconst (v := 4) hx hb dX9_unit_113 (by decide) ?_
        have ttl_4 := tl_4
        refine lv_icmp_eq (tgt := 121) hx hb dX9_unit_114 (by decide) (fun c436 => ?_) (fun c436 => ?_)
        · have kc436 := c_eq c436
          exact j121 f H locs ls v98_s0 v98_l4 v98_l3 v98_l2 v98_l1 (by omega) (by omega) (by omega) (by omega) (by omega) (by omega) (by omega) (by omega) (by omega) (by omega) (by omega) (hFr) hT hP hD hS (lv_sub hl [0, 1, 2, 3, 4, 5] rfl)
        · have kc436 := c_ne c436
          refine lv_iload_n hx hb dX9_unit_117 rfl (lv_at hl 2 rfl) ?_
          refine lv_if_eq (tgt := 143) hx hb dX9_unit_118 (by decide) (fun c437 => ?_) (fun c437 => ?_)
          · have kc437 := c_eq c437
            exact j143 f H locs ls v98_s0 v98_l4 v98_l3 v98_l2 v98_l1 (by omega) (by omega) (by omega) (by omega) (by omega) (by omega) (by omega) (by omega) (hFr) hT hP hD hS (lv_sub hl [0, 1, 2, 3, 4, 5] rfl)
          · have kc437 := c_ne c437
            exact j121 f H locs ls v98_s0 v98_l4 v98_l3 v98_l2 v98_l1 (by omega) (by omega) (by omega) (by omega) (by omega) (by omega) (by omega) (by omega) (by omega) (by omega) (by omega) (hFr) hT hP hD hS (lv_sub hl [0, 1, 2, 3, 4, 5] rfl)
  have j93 : ∀ (f : Nat → va_E) (H : Heap) (locs : List Loc) (ls : Array Slot) (v93_l4 : Int32) (v93_l3 : Int32) (v93_l2 : Int32) (v93_l1 : Int32), (0 ≤ v93_l4.toInt ∧ v93_l4.toInt ≤ 122) → (0 ≤ v93_l3.toInt ∧ v93_l3.toInt ≤ 1) → (0 ≤ v93_l2.toInt ∧ v93_l2.toInt ≤ 1) → (0 ≤ v93_l1.toInt ∧ v93_l1.toInt ≤ 1) → (0 ≤ m_end.toInt ∧ m_end.toInt ≤ 1600) → (1 ≤ m_piled.toInt ∧ m_piled.toInt ≤ 90) → ((v93_l4.toInt = 0 ∨ (97 ≤ v93_l4.toInt ∧ v93_l4.toInt ≤ 122))) → ((v93_l2.toInt = 1 → 1 ≤ m_token.toInt)) → ((v93_l3.toInt = 1 → 1 ≤ m_token.toInt)) → ((v93_l4.toInt = 0 ∨ 1 ≤ m_token.toInt)) → (FrC c_code c_code m_rb) → (TYm ad cy fr0 c_text m_taped m_size m_faultKind m_faultPlace m_at m_end m_token m_number m_name c_points c_strands c_units c_told c_ruleFrom c_ruleTo c_code c_eWhat c_eSign m_bank m_rb m_codes m_within m_piled m_unitsInRule m_askStrand m_askTied m_thoughtClaim m_thoughtNeed m_thoughtAll c_roundOf m_acts m_undone m_laid m_firstMove m_seens m_time m_waysNow m_fitting f) → (va_P D vwCl (wl ad f) H) → (va_D A (wl ad f)) → (va_S A s.heap H locs) → (lv_has ls 7 [(4, .int v93_l4), (3, .int v93_l3), (2, .int v93_l2), (1, .int v93_l1), (0, .ref (ad 148))]) → W p l e (rmO 2 44 0 0) s m ([.ref (ad 148)] : List Value).toArray below meth c H locs 0 0 (MQ below (va_Qi (fun (r : Int32) (g : Nat → va_E) => ((r = 1) ∨ (r = 0)) ∧ (∃ (m_faultKind' : Int32) (m_faultPlace' : Int32) (m_at' : Int32) (m_end' : Int32) (m_token' : Int32) (m_number' : Int32) (m_name' : Int64) (c_units' : Nat → Int32) (c_code' : Nat → Int32) (c_eWhat' : Nat → Int32) (c_eSign' : Nat → Int32) (m_codes' : Int32) (m_within' : Int32) (m_piled' : Int32) (m_unitsInRule' : Int32), TYm ad cy fr0 c_text m_taped m_size m_faultKind' m_faultPlace' m_at' m_end' m_token' m_number' m_name' c_points c_strands c_units' c_told c_ruleFrom c_ruleTo c_code' c_eWhat' c_eSign' m_bank m_rb m_codes' m_within' m_piled' m_unitsInRule' m_askStrand m_askTied m_thoughtClaim m_thoughtNeed m_thoughtAll c_roundOf m_acts m_undone m_laid m_firstMove m_seens m_time m_waysNow m_fitting g ∧ (0 ≤ m_end'.toInt ∧ m_end'.toInt ≤ 1600) ∧ (1 ≤ m_piled'.toInt ∧ m_piled'.toInt ≤ 90) ∧ ((m_token'.toInt = 0 ∧ m_at'.toInt = m_size.toInt ∧ m_end'.toInt = m_size.toInt) ∨ (1 ≤ m_token'.toInt ∧ m_at'.toInt < m_end'.toInt ∧ m_end'.toInt ≤ m_size.toInt)) ∧ m_at.toInt ≤ m_at'.toInt ∧ (0 ≤ m_within'.toInt ∧ m_within'.toInt ≤ 7 ∧ m_within'.toInt = cQZ c_eWhat' m_piled'.toInt) ∧ (0 ≤ m_unitsInRule'.toInt ∧ m_unitsInRule'.toInt ≤ 30) ∧ ((c_ruleFrom m_rb.toNatClampNeg).toInt = 560 * m_rb.toInt ∧ 0 ≤ m_rb.toInt ∧ m_rb.toInt ≤ 1 ∧ (c_ruleFrom m_rb.toNatClampNeg).toInt ≤ m_codes'.toInt) ∧ (dpZ c_code' (c_ruleFrom m_rb.toNatClampNeg) m_codes'.toInt ≤ m_unitsInRule'.toInt ∧ 0 ≤ cPZ c_eWhat' m_piled'.toInt) ∧ (m_piled'.toInt ≤ 1 + m_within'.toInt + cPZ c_eWhat' m_piled'.toInt ∧ 0 ≤ m_piled'.toInt) ∧ (r.toInt = 1 → (cPZ c_eWhat' m_piled'.toInt ≤ dpZ c_code' (c_ruleFrom m_rb.toNatClampNeg) m_codes'.toInt ∧ m_codes'.toInt - (c_ruleFrom m_rb.toNatClampNeg).toInt + dpZ c_code' (c_ruleFrom m_rb.toNatClampNeg) m_codes'.toInt ≤ 16 * m_unitsInRule'.toInt + m_within'.toInt)) ∧ (r.toInt = 0 → (cPZ c_eWhat' m_piled'.toInt + 1 ≤ dpZ c_code' (c_ruleFrom m_rb.toNatClampNeg) m_codes'.toInt ∧ m_codes'.toInt - (c_ruleFrom m_rb.toNatClampNeg).toInt + dpZ c_code' (c_ruleFrom m_rb.toNatClampNeg) m_codes'.toInt + m_within'.toInt ≤ 16 * m_unitsInRule'.toInt)) ∧ 1 ≤ m_piled'.toInt ∧ (1 ≤ m_faultKind'.toInt ∨ (m_at.toInt < m_at'.toInt ∧ m_piled'.toInt ≤ m_piled.toInt + 1)) ∧ SGp c_eWhat' c_eSign' m_piled'.toInt ∧ okcZ c_code' (c_ruleFrom m_rb.toNatClampNeg) m_codes'.toInt ∧ FrC c_code c_code' m_rb)) (fun g t => PstT D ad g t) A) ([.ref (ad 148)] : List Value).toArray s 0 0 A) (F0 m 93 ls []) := by
    intro f H locs ls v93_l4 v93_l3 v93_l2 v93_l1 hv93_l4 hv93_l3 hv93_l2 hv93_l1 hv93_p_m_end hv93_p_m_piled hJ93_0 hJ93_1 hJ93_2 hJ93_3 hFr hT hP hD hS hl
    refine lv_iconst (v := 1) hx hb dX9_unit_93 (by decide) ?_
    refine lv_goto (tgt := 98) hx hb dX9_unit_94 (by decide) ?_
    obtain ⟨e453, h438, h439, h440, h441, h442, h443, h444, h445, h446, h447, h448, h449, h450, h451, h452⟩ := (show okX9 ad m_taped m_size m_faultKind m_faultPlace m_at m_end m_token m_number m_name m_bank m_rb m_codes m_within m_piled m_unitsInRule m_askStrand m_askTied m_thoughtClaim m_thoughtNeed m_thoughtAll m_acts m_undone m_laid m_firstMove m_seens m_time m_waysNow m_fitting 148 (f 148) from hT.1 148 (by decide))
    have ttl_1 := tl_1
    exact j98 f H locs ls v93_l4 v93_l3 v93_l2 v93_l1 (1 : Int32) (by omega) (by omega) (by omega) (by omega) (by omega) (by omega) (by omega) (by omega) (by omega) (by omega) (by omega) (by omega) (hFr) hT hP hD hS (lv_sub hl [0, 1, 2, 3, 4] rfl)
  have j56 : ∀ (f : Nat → va_E) (H : Heap) (locs : List Loc) (ls : Array Slot) (v56_l1 : Int32) (v56_s0 : Int32), (0 ≤ v56_l1.toInt ∧ v56_l1.toInt ≤ 1) → (0 ≤ v56_s0.toInt ∧ v56_s0.toInt ≤ 1) → (0 ≤ m_end.toInt ∧ m_end.toInt ≤ 1600) → (1 ≤ m_piled.toInt ∧ m_piled.toInt ≤ 90) → ((v56_s0.toInt = 1 → 1 ≤ m_token.toInt)) → (FrC c_code c_code m_rb) → (TYm ad cy fr0 c_text m_taped m_size m_faultKind m_faultPlace m_at m_end m_token m_number m_name c_points c_strands c_units c_told c_ruleFrom c_ruleTo c_code c_eWhat c_eSign m_bank m_rb m_codes m_within m_piled m_unitsInRule m_askStrand m_askTied m_thoughtClaim m_thoughtNeed m_thoughtAll c_roundOf m_acts m_undone m_laid m_firstMove m_seens m_time m_waysNow m_fitting f) → (va_P D vwCl (wl ad f) H) → (va_D A (wl ad f)) → (va_S A s.heap H locs) → (lv_has ls 7 [(1, .int v56_l1), (0, .ref (ad 148))]) → W p l e (rmO 2 44 0 0) s m ([.ref (ad 148)] : List Value).toArray below meth c H locs 0 0 (MQ below (va_Qi (fun (r : Int32) (g : Nat → va_E) => ((r = 1) ∨ (r = 0)) ∧ (∃ (m_faultKind' : Int32) (m_faultPlace' : Int32) (m_at' : Int32) (m_end' : Int32) (m_token' : Int32) (m_number' : Int32) (m_name' : Int64) (c_units' : Nat → Int32) (c_code' : Nat → Int32) (c_eWhat' : Nat → Int32) (c_eSign' : Nat → Int32) (m_codes' : Int32) (m_within' : Int32) (m_piled' : Int32) (m_unitsInRule' : Int32), TYm ad cy fr0 c_text m_taped m_size m_faultKind' m_faultPlace' m_at' m_end' m_token' m_number' m_name' c_points c_strands c_units' c_told c_ruleFrom c_ruleTo c_code' c_eWhat' c_eSign' m_bank m_rb m_codes' m_within' m_piled' m_unitsInRule' m_askStrand m_askTied m_thoughtClaim m_thoughtNeed m_thoughtAll c_roundOf m_acts m_undone m_laid m_firstMove m_seens m_time m_waysNow m_fitting g ∧ (0 ≤ m_end'.toInt ∧ m_end'.toInt ≤ 1600) ∧ (1 ≤ m_piled'.toInt ∧ m_piled'.toInt ≤ 90) ∧ ((m_token'.toInt = 0 ∧ m_at'.toInt = m_size.toInt ∧ m_end'.toInt = m_size.toInt) ∨ (1 ≤ m_token'.toInt ∧ m_at'.toInt < m_end'.toInt ∧ m_end'.toInt ≤ m_size.toInt)) ∧ m_at.toInt ≤ m_at'.toInt ∧ (0 ≤ m_within'.toInt ∧ m_within'.toInt ≤ 7 ∧ m_within'.toInt = cQZ c_eWhat' m_piled'.toInt) ∧ (0 ≤ m_unitsInRule'.toInt ∧ m_unitsInRule'.toInt ≤ 30) ∧ ((c_ruleFrom m_rb.toNatClampNeg).toInt = 560 * m_rb.toInt ∧ 0 ≤ m_rb.toInt ∧ m_rb.toInt ≤ 1 ∧ (c_ruleFrom m_rb.toNatClampNeg).toInt ≤ m_codes'.toInt) ∧ (dpZ c_code' (c_ruleFrom m_rb.toNatClampNeg) m_codes'.toInt ≤ m_unitsInRule'.toInt ∧ 0 ≤ cPZ c_eWhat' m_piled'.toInt) ∧ (m_piled'.toInt ≤ 1 + m_within'.toInt + cPZ c_eWhat' m_piled'.toInt ∧ 0 ≤ m_piled'.toInt) ∧ (r.toInt = 1 → (cPZ c_eWhat' m_piled'.toInt ≤ dpZ c_code' (c_ruleFrom m_rb.toNatClampNeg) m_codes'.toInt ∧ m_codes'.toInt - (c_ruleFrom m_rb.toNatClampNeg).toInt + dpZ c_code' (c_ruleFrom m_rb.toNatClampNeg) m_codes'.toInt ≤ 16 * m_unitsInRule'.toInt + m_within'.toInt)) ∧ (r.toInt = 0 → (cPZ c_eWhat' m_piled'.toInt + 1 ≤ dpZ c_code' (c_ruleFrom m_rb.toNatClampNeg) m_codes'.toInt ∧ m_codes'.toInt - (c_ruleFrom m_rb.toNatClampNeg).toInt + dpZ c_code' (c_ruleFrom m_rb.toNatClampNeg) m_codes'.toInt + m_within'.toInt ≤ 16 * m_unitsInRule'.toInt)) ∧ 1 ≤ m_piled'.toInt ∧ (1 ≤ m_faultKind'.toInt ∨ (m_at.toInt < m_at'.toInt ∧ m_piled'.toInt ≤ m_piled.toInt + 1)) ∧ SGp c_eWhat' c_eSign' m_piled'.toInt ∧ okcZ c_code' (c_ruleFrom m_rb.toNatClampNeg) m_codes'.toInt ∧ FrC c_code c_code' m_rb)) (fun g t => PstT D ad g t) A) ([.ref (ad 148)] : List Value).toArray s 0 0 A) (F0 m 56 ls [.int v56_s0]) := by
    intro f H locs ls v56_l1 v56_s0 hv56_l1 hv56_s0 hv56_p_m_end hv56_p_m_piled hJ56_0 hFr hT hP hD hS hl
    refine lv_istore_n (lv' := [(2, .int v56_s0), (1, .int v56_l1), (0, .ref (ad 148))]) hx hb dX9_unit_56 rfl hl (by decide) rfl (fun ls hl => ?_)
    refine lv_aload_n hx hb dX9_unit_57 rfl (lv_at hl 2 rfl) ?_
    refine lv_bipush (v := 40) hx hb dX9_unit_58 (by decide) ?_
    have ttl_40 := tl_40
    obtain ⟨e469, h454, h455, h456, h457, h458, h459, h460, h461, h462, h463, h464, h465, h466, h467, h468⟩ := (show okX9 ad m_taped m_size m_faultKind m_faultPlace m_at m_end m_token m_number m_name m_bank m_rb m_codes m_within m_piled m_unitsInRule m_askStrand m_askTied m_thoughtClaim m_thoughtNeed m_thoughtAll m_acts m_undone m_laid m_firstMove m_seens m_time m_waysNow m_fitting 148 (f 148) from hT.1 148 (by decide))
    refine tVI (As := [.int 40]) (rest := []) (i := 148) ⟨hx, hb, hml, hown, hts⟩ hK hE hP hD hS hA hAB (s_X9_isSignHere_0 l B0 adK adV D cy ad fr0 c_text m_taped m_size m_faultKind m_faultPlace m_at m_end m_token m_number m_name c_points c_strands c_units c_told c_ruleFrom c_ruleTo c_code c_eWhat c_eSign m_bank m_rb m_codes m_within m_piled m_unitsInRule m_askStrand m_askTied m_thoughtClaim m_thoughtNeed m_thoughtAll c_roundOf m_acts m_undone m_laid m_firstMove m_seens m_time m_waysNow m_fitting f hT (40 : Int32) (by omega) _) (cwV 1 hts gX9_unit_X9_isSignHere rfl rfl rfl (by decide +kernel) ⟨Nat.le_of_ble_eq_true rfl, Nat.le_of_ble_eq_true rfl⟩) (by decide) 9 e469 rfl rfl hl.1 rfl (Nat.le_of_ble_eq_true rfl) dX9_unit_60 ⟨Nat.le_of_ble_eq_true rfl, Nat.le_of_ble_eq_true rfl⟩ (fun r g H locs hw hP hD hS => ?_)
    obtain ⟨hrs, rfl⟩ := hw
    obtain ⟨x470, rfl⟩ : ∃ q, q = r := ⟨_, rfl⟩
    rcases hrs with ⟨rfl, h471, h472⟩ | rfl
    · refine lv_istore_n (lv' := [(3, .int 1), (2, .int v56_s0), (1, .int v56_l1), (0, .ref (ad 148))]) hx hb dX9_unit_63 rfl hl (by decide) rfl (fun ls hl => ?_)
      refine lv_aload_n hx hb dX9_unit_64 rfl (lv_at hl 3 rfl) ?_
      refine tVI (As := []) (rest := []) (i := 148) ⟨hx, hb, hml, hown, hts⟩ hK hE hP hD hS hA hAB (s_X9_wordHere_0 l B0 adK adV D cy ad fr0 c_text m_taped m_size m_faultKind m_faultPlace m_at m_end m_token m_number m_name c_points c_strands c_units c_told c_ruleFrom c_ruleTo c_code c_eWhat c_eSign m_bank m_rb m_codes m_within m_piled m_unitsInRule m_askStrand m_askTied m_thoughtClaim m_thoughtNeed m_thoughtAll c_roundOf m_acts m_undone m_laid m_firstMove m_seens m_time m_waysNow m_fitting f hT _) (cwV 0 hts gX9_unit_X9_wordHere rfl rfl rfl (by decide +kernel) ⟨Nat.le_of_ble_eq_true rfl, Nat.le_of_ble_eq_true rfl⟩) (by decide) 9 e469 rfl rfl hl.1 rfl (Nat.le_of_ble_eq_true rfl) dX9_unit_65 ⟨Nat.le_of_ble_eq_true rfl, Nat.le_of_ble_eq_true rfl⟩ (fun r g H locs hw hP hD hS => ?_)
      obtain ⟨hrs, rfl⟩ := hw
      obtain ⟨x473, rfl⟩ : ∃ q, q = r := ⟨_, rfl⟩
      rcases hrs with ⟨h474, h475⟩ | rfl
      · exact False.elim (by omega)
      · refine lv_istore (lv' := [(4, .int 0), (3, .int 1), (2, .int v56_s0), (1, .int v56_l1), (0, .ref (ad 148))]) hx hb dX9_unit_68 hl (by decide) rfl (fun ls hl => ?_)
        refine lv_aload_n hx hb dX9_unit_70 rfl (lv_at hl 4 rfl) ?_
        refine va_get (D := D) (cl := vwCl) (ci := 9) (v := .ref (ad 153)) (C := RX9) (T := TX9) (N := 64) hx hb hts in_X9_unit_X9 hown hK hP 148 (wl_at (by decide) e469) rfl 13 (by decide) (hts (.fieldLink RX9 27 "EightReasonsModel" "units" "[I") (List.mem_of_getElem? (i := 4) rfl)) (fun _ h9 => h9) rfl dX9_unit_71 ?_
        refine lv_aload_n hx hb dX9_unit_74 rfl (lv_at hl 4 rfl) ?_
        refine va_get (D := D) (cl := vwCl) (ci := 9) (v := .int m_rb) (C := RX9) (T := TX9) (N := 64) hx hb hts in_X9_unit_X9 hown hK hP 148 (wl_at (by decide) e469) rfl 30 (by decide) (hts (.fieldLink RX9 230 "EightReasonsModel" "rb" "I") (List.mem_of_getElem? (i := 5) rfl)) (fun _ h9 => h9) rfl dX9_unit_75 ?_
        have e476 : f 153 = _ := (show okIp cy 2 c_units (f 153) from hT.1 153 (by decide))
        refine va_iald hx hb hK hP 153 0 (wl_at (by decide) e476) rfl (vp_in_iff.mpr ⟨by omega, by omega⟩) dX9_unit_78 ?_
        refine lv_topi (fun x477 ex477 => ?_)
        have kx477 := congrArg Int32.toInt ex477
        refine lv_bipush (v := 60) hx hb dX9_unit_79 (by decide) ?_
        have ttl_60 := tl_60
        refine lv_icmp_eq (tgt := 93) hx hb dX9_unit_81 (by decide) (fun c478 => ?_) (fun c478 => ?_)
        · have kc478 := c_eq c478
          have ttl_0 := tl_0
          have ttl_1 := tl_1
          exact j93 f H locs ls (0 : Int32) (1 : Int32) v56_s0 v56_l1 (by omega) (by omega) (by omega) (by omega) (by omega) (by omega) (by omega) (by omega) (by omega) (by omega) (hFr) hT hP hD hS (lv_sub hl [0, 1, 2, 3, 4] rfl)
        · have kc478 := c_ne c478
          refine lv_aload_n hx hb dX9_unit_84 rfl (lv_at hl 4 rfl) ?_
          refine va_get (D := D) (cl := vwCl) (ci := 9) (v := .int m_unitsInRule) (C := RX9) (T := TX9) (N := 64) hx hb hts in_X9_unit_X9 hown hK hP 148 (wl_at (by decide) e469) rfl 34 (by decide) (hts (.fieldLink RX9 279 "EightReasonsModel" "unitsInRule" "I") (List.mem_of_getElem? (i := 6) rfl)) (fun _ h9 => h9) rfl dX9_unit_85 ?_
          refine lv_bipush (v := 30) hx hb dX9_unit_88 (by decide) ?_
          have ttl_30 := tl_30
          refine lv_icmp_ne (tgt := 97) hx hb dX9_unit_90 (by decide) (fun c479 => ?_) (fun c479 => ?_)
          · have kc479 := c_ne c479
            refine lv_iconst (v := 0) hx hb dX9_unit_97 (by decide) ?_
            have ttl_0 := tl_0
            have ttl_1 := tl_1
            exact j98 f H locs ls (0 : Int32) (1 : Int32) v56_s0 v56_l1 (0 : Int32) (by omega) (by omega) (by omega) (by omega) (by omega) (by omega) (by omega) (by omega) (by omega) (by omega) (by omega) (by omega) (hFr) hT hP hD hS (lv_sub hl [0, 1, 2, 3, 4] rfl)
          · have kc479 := c_eq c479
            have ttl_0 := tl_0
            have ttl_1 := tl_1
            exact j93 f H locs ls (0 : Int32) (1 : Int32) v56_s0 v56_l1 (by omega) (by omega) (by omega) (by omega) (by omega) (by omega) (by omega) (by omega) (by omega) (by omega) (hFr) hT hP hD hS (lv_sub hl [0, 1, 2, 3, 4] rfl)
    · refine lv_istore_n (lv' := [(3, .int 0), (2, .int v56_s0), (1, .int v56_l1), (0, .ref (ad 148))]) hx hb dX9_unit_63 rfl hl (by decide) rfl (fun ls hl => ?_)
      refine lv_aload_n hx hb dX9_unit_64 rfl (lv_at hl 3 rfl) ?_
      refine tVI (As := []) (rest := []) (i := 148) ⟨hx, hb, hml, hown, hts⟩ hK hE hP hD hS hA hAB (s_X9_wordHere_0 l B0 adK adV D cy ad fr0 c_text m_taped m_size m_faultKind m_faultPlace m_at m_end m_token m_number m_name c_points c_strands c_units c_told c_ruleFrom c_ruleTo c_code c_eWhat c_eSign m_bank m_rb m_codes m_within m_piled m_unitsInRule m_askStrand m_askTied m_thoughtClaim m_thoughtNeed m_thoughtAll c_roundOf m_acts m_undone m_laid m_firstMove m_seens m_time m_waysNow m_fitting f hT _) (cwV 0 hts gX9_unit_X9_wordHere rfl rfl rfl (by decide +kernel) ⟨Nat.le_of_ble_eq_true rfl, Nat.le_of_ble_eq_true rfl⟩) (by decide) 9 e469 rfl rfl hl.1 rfl (Nat.le_of_ble_eq_true rfl) dX9_unit_65 ⟨Nat.le_of_ble_eq_true rfl, Nat.le_of_ble_eq_true rfl⟩ (fun r g H locs hw hP hD hS => ?_)
      obtain ⟨hrs, rfl⟩ := hw
      obtain ⟨x480, rfl⟩ : ∃ q, q = r := ⟨_, rfl⟩
      rcases hrs with ⟨h481, h482⟩ | rfl
      · refine lv_istore (lv' := [(4, .int x480), (3, .int 0), (2, .int v56_s0), (1, .int v56_l1), (0, .ref (ad 148))]) hx hb dX9_unit_68 hl (by decide) rfl (fun ls hl => ?_)
        refine lv_aload_n hx hb dX9_unit_70 rfl (lv_at hl 4 rfl) ?_
        refine va_get (D := D) (cl := vwCl) (ci := 9) (v := .ref (ad 153)) (C := RX9) (T := TX9) (N := 64) hx hb hts in_X9_unit_X9 hown hK hP 148 (wl_at (by decide) e469) rfl 13 (by decide) (hts (.fieldLink RX9 27 "EightReasonsModel" "units" "[I") (List.mem_of_getElem? (i := 4) rfl)) (fun _ h9 => h9) rfl dX9_unit_71 ?_
        refine lv_aload_n hx hb dX9_unit_74 rfl (lv_at hl 4 rfl) ?_
        refine va_get (D := D) (cl := vwCl) (ci := 9) (v := .int m_rb) (C := RX9) (T := TX9) (N := 64) hx hb hts in_X9_unit_X9 hown hK hP 148 (wl_at (by decide) e469) rfl 30 (by decide) (hts (.fieldLink RX9 230 "EightReasonsModel" "rb" "I") (List.mem_of_getElem? (i := 5) rfl)) (fun _ h9 => h9) rfl dX9_unit_75 ?_
        have e483 : f 153 = _ := (show okIp cy 2 c_units (f 153) from hT.1 153 (by decide))
        refine va_iald hx hb hK hP 153 0 (wl_at (by decide) e483) rfl (vp_in_iff.mpr ⟨by omega, by omega⟩) dX9_unit_78 ?_
        refine lv_topi (fun x484 ex484 => ?_)
        have kx484 := congrArg Int32.toInt ex484
        refine lv_bipush (v := 60) hx hb dX9_unit_79 (by decide) ?_
        have ttl_60 := tl_60
        refine lv_icmp_eq (tgt := 93) hx hb dX9_unit_81 (by decide) (fun c485 => ?_) (fun c485 => ?_)
        · have kc485 := c_eq c485
          have ttl_0 := tl_0
          exact j93 f H locs ls x480 (0 : Int32) v56_s0 v56_l1 (by omega) (by omega) (by omega) (by omega) (by omega) (by omega) (by omega) (by omega) (by omega) (by omega) (hFr) hT hP hD hS (lv_sub hl [0, 1, 2, 3, 4] rfl)
        · have kc485 := c_ne c485
          refine lv_aload_n hx hb dX9_unit_84 rfl (lv_at hl 4 rfl) ?_
          refine va_get (D := D) (cl := vwCl) (ci := 9) (v := .int m_unitsInRule) (C := RX9) (T := TX9) (N := 64) hx hb hts in_X9_unit_X9 hown hK hP 148 (wl_at (by decide) e469) rfl 34 (by decide) (hts (.fieldLink RX9 279 "EightReasonsModel" "unitsInRule" "I") (List.mem_of_getElem? (i := 6) rfl)) (fun _ h9 => h9) rfl dX9_unit_85 ?_
          refine lv_bipush (v := 30) hx hb dX9_unit_88 (by decide) ?_
          have ttl_30 := tl_30
          refine lv_icmp_ne (tgt := 97) hx hb dX9_unit_90 (by decide) (fun c486 => ?_) (fun c486 => ?_)
          · have kc486 := c_ne c486
            refine lv_iconst (v := 0) hx hb dX9_unit_97 (by decide) ?_
            have ttl_0 := tl_0
            exact j98 f H locs ls x480 (0 : Int32) v56_s0 v56_l1 (0 : Int32) (by omega) (by omega) (by omega) (by omega) (by omega) (by omega) (by omega) (by omega) (by omega) (by omega) (by omega) (by omega) (hFr) hT hP hD hS (lv_sub hl [0, 1, 2, 3, 4] rfl)
          · have kc486 := c_eq c486
            have ttl_0 := tl_0
            exact j93 f H locs ls x480 (0 : Int32) v56_s0 v56_l1 (by omega) (by omega) (by omega) (by omega) (by omega) (by omega) (by omega) (by omega) (by omega) (by omega) (hFr) hT hP hD hS (lv_sub hl [0, 1, 2, 3, 4] rfl)
      · refine lv_istore (lv' := [(4, .int 0), (3, .int 0), (2, .int v56_s0), (1, .int v56_l1), (0, .ref (ad 148))]) hx hb dX9_unit_68 hl (by decide) rfl (fun ls hl => ?_)
        refine lv_aload_n hx hb dX9_unit_70 rfl (lv_at hl 4 rfl) ?_
        refine va_get (D := D) (cl := vwCl) (ci := 9) (v := .ref (ad 153)) (C := RX9) (T := TX9) (N := 64) hx hb hts in_X9_unit_X9 hown hK hP 148 (wl_at (by decide) e469) rfl 13 (by decide) (hts (.fieldLink RX9 27 "EightReasonsModel" "units" "[I") (List.mem_of_getElem? (i := 4) rfl)) (fun _ h9 => h9) rfl dX9_unit_71 ?_
        refine lv_aload_n hx hb dX9_unit_74 rfl (lv_at hl 4 rfl) ?_
        refine va_get (D := D) (cl := vwCl) (ci := 9) (v := .int m_rb) (C := RX9) (T := TX9) (N := 64) hx hb hts in_X9_unit_X9 hown hK hP 148 (wl_at (by decide) e469) rfl 30 (by decide) (hts (.fieldLink RX9 230 "EightReasonsModel" "rb" "I") (List.mem_of_getElem? (i := 5) rfl)) (fun _ h9 => h9) rfl dX9_unit_75 ?_
        have e487 : f 153 = _ := (show okIp cy 2 c_units (f 153) from hT.1 153 (by decide))
        refine va_iald hx hb hK hP 153 0 (wl_at (by decide) e487) rfl (vp_in_iff.mpr ⟨by omega, by omega⟩) dX9_unit_78 ?_
        refine lv_topi (fun x488 ex488 => ?_)
        have kx488 := congrArg Int32.toInt ex488
        refine lv_bipush (v := 60) hx hb dX9_unit_79 (by decide) ?_
        have ttl_60 := tl_60
        refine lv_icmp_eq (tgt := 93) hx hb dX9_unit_81 (by decide) (fun c489 => ?_) (fun c489 => ?_)
        · have kc489 := c_eq c489
          have ttl_0 := tl_0
          exact j93 f H locs ls (0 : Int32) (0 : Int32) v56_s0 v56_l1 (by omega) (by omega) (by omega) (by omega) (by omega) (by omega) (by omega) (by omega) (by omega) (by omega) (hFr) hT hP hD hS (lv_sub hl [0, 1, 2, 3, 4] rfl)
        · have kc489 := c_ne c489
          refine lv_aload_n hx hb dX9_unit_84 rfl (lv_at hl 4 rfl) ?_
          refine va_get (D := D) (cl := vwCl) (ci := 9) (v := .int m_unitsInRule) (C := RX9) (T := TX9) (N := 64) hx hb hts in_X9_unit_X9 hown hK hP 148 (wl_at (by decide) e469) rfl 34 (by decide) (hts (.fieldLink RX9 279 "EightReasonsModel" "unitsInRule" "I") (List.mem_of_getElem? (i := 6) rfl)) (fun _ h9 => h9) rfl dX9_unit_85 ?_
          refine lv_bipush (v := 30) hx hb dX9_unit_88 (by decide) ?_
          have ttl_30 := tl_30
          refine lv_icmp_ne (tgt := 97) hx hb dX9_unit_90 (by decide) (fun c490 => ?_) (fun c490 => ?_)
          · have kc490 := c_ne c490
            refine lv_iconst (v := 0) hx hb dX9_unit_97 (by decide) ?_
            have ttl_0 := tl_0
            exact j98 f H locs ls (0 : Int32) (0 : Int32) v56_s0 v56_l1 (0 : Int32) (by omega) (by omega) (by omega) (by omega) (by omega) (by omega) (by omega) (by omega) (by omega) (by omega) (by omega) (by omega) (hFr) hT hP hD hS (lv_sub hl [0, 1, 2, 3, 4] rfl)
          · have kc490 := c_eq c490
            have ttl_0 := tl_0
            exact j93 f H locs ls (0 : Int32) (0 : Int32) v56_s0 v56_l1 (by omega) (by omega) (by omega) (by omega) (by omega) (by omega) (by omega) (by omega) (by omega) (by omega) (hFr) hT hP hD hS (lv_sub hl [0, 1, 2, 3, 4] rfl)
  have j55 : ∀ (f : Nat → va_E) (H : Heap) (locs : List Loc) (ls : Array Slot) (v55_l1 : Int32), (0 ≤ v55_l1.toInt ∧ v55_l1.toInt ≤ 1) → (0 ≤ m_end.toInt ∧ m_end.toInt ≤ 1600) → (1 ≤ m_piled.toInt ∧ m_piled.toInt ≤ 90) → (FrC c_code c_code m_rb) → (TYm ad cy fr0 c_text m_taped m_size m_faultKind m_faultPlace m_at m_end m_token m_number m_name c_points c_strands c_units c_told c_ruleFrom c_ruleTo c_code c_eWhat c_eSign m_bank m_rb m_codes m_within m_piled m_unitsInRule m_askStrand m_askTied m_thoughtClaim m_thoughtNeed m_thoughtAll c_roundOf m_acts m_undone m_laid m_firstMove m_seens m_time m_waysNow m_fitting f) → (va_P D vwCl (wl ad f) H) → (va_D A (wl ad f)) → (va_S A s.heap H locs) → (lv_has ls 7 [(1, .int v55_l1), (0, .ref (ad 148))]) → W p l e (rmO 2 44 0 0) s m ([.ref (ad 148)] : List Value).toArray below meth c H locs 0 0 (MQ below (va_Qi (fun (r : Int32) (g : Nat → va_E) => ((r = 1) ∨ (r = 0)) ∧ (∃ (m_faultKind' : Int32) (m_faultPlace' : Int32) (m_at' : Int32) (m_end' : Int32) (m_token' : Int32) (m_number' : Int32) (m_name' : Int64) (c_units' : Nat → Int32) (c_code' : Nat → Int32) (c_eWhat' : Nat → Int32) (c_eSign' : Nat → Int32) (m_codes' : Int32) (m_within' : Int32) (m_piled' : Int32) (m_unitsInRule' : Int32), TYm ad cy fr0 c_text m_taped m_size m_faultKind' m_faultPlace' m_at' m_end' m_token' m_number' m_name' c_points c_strands c_units' c_told c_ruleFrom c_ruleTo c_code' c_eWhat' c_eSign' m_bank m_rb m_codes' m_within' m_piled' m_unitsInRule' m_askStrand m_askTied m_thoughtClaim m_thoughtNeed m_thoughtAll c_roundOf m_acts m_undone m_laid m_firstMove m_seens m_time m_waysNow m_fitting g ∧ (0 ≤ m_end'.toInt ∧ m_end'.toInt ≤ 1600) ∧ (1 ≤ m_piled'.toInt ∧ m_piled'.toInt ≤ 90) ∧ ((m_token'.toInt = 0 ∧ m_at'.toInt = m_size.toInt ∧ m_end'.toInt = m_size.toInt) ∨ (1 ≤ m_token'.toInt ∧ m_at'.toInt < m_end'.toInt ∧ m_end'.toInt ≤ m_size.toInt)) ∧ m_at.toInt ≤ m_at'.toInt ∧ (0 ≤ m_within'.toInt ∧ m_within'.toInt ≤ 7 ∧ m_within'.toInt = cQZ c_eWhat' m_piled'.toInt) ∧ (0 ≤ m_unitsInRule'.toInt ∧ m_unitsInRule'.toInt ≤ 30) ∧ ((c_ruleFrom m_rb.toNatClampNeg).toInt = 560 * m_rb.toInt ∧ 0 ≤ m_rb.toInt ∧ m_rb.toInt ≤ 1 ∧ (c_ruleFrom m_rb.toNatClampNeg).toInt ≤ m_codes'.toInt) ∧ (dpZ c_code' (c_ruleFrom m_rb.toNatClampNeg) m_codes'.toInt ≤ m_unitsInRule'.toInt ∧ 0 ≤ cPZ c_eWhat' m_piled'.toInt) ∧ (m_piled'.toInt ≤ 1 + m_within'.toInt + cPZ c_eWhat' m_piled'.toInt ∧ 0 ≤ m_piled'.toInt) ∧ (r.toInt = 1 → (cPZ c_eWhat' m_piled'.toInt ≤ dpZ c_code' (c_ruleFrom m_rb.toNatClampNeg) m_codes'.toInt ∧ m_codes'.toInt - (c_ruleFrom m_rb.toNatClampNeg).toInt + dpZ c_code' (c_ruleFrom m_rb.toNatClampNeg) m_codes'.toInt ≤ 16 * m_unitsInRule'.toInt + m_within'.toInt)) ∧ (r.toInt = 0 → (cPZ c_eWhat' m_piled'.toInt + 1 ≤ dpZ c_code' (c_ruleFrom m_rb.toNatClampNeg) m_codes'.toInt ∧ m_codes'.toInt - (c_ruleFrom m_rb.toNatClampNeg).toInt + dpZ c_code' (c_ruleFrom m_rb.toNatClampNeg) m_codes'.toInt + m_within'.toInt ≤ 16 * m_unitsInRule'.toInt)) ∧ 1 ≤ m_piled'.toInt ∧ (1 ≤ m_faultKind'.toInt ∨ (m_at.toInt < m_at'.toInt ∧ m_piled'.toInt ≤ m_piled.toInt + 1)) ∧ SGp c_eWhat' c_eSign' m_piled'.toInt ∧ okcZ c_code' (c_ruleFrom m_rb.toNatClampNeg) m_codes'.toInt ∧ FrC c_code c_code' m_rb)) (fun g t => PstT D ad g t) A) ([.ref (ad 148)] : List Value).toArray s 0 0 A) (F0 m 55 ls []) := by
    intro f H locs ls v55_l1 hv55_l1 hv55_p_m_end hv55_p_m_piled hFr hT hP hD hS hl
    refine lv_iconst (v := 0) hx hb dX9_unit_55 (by decide) ?_
    obtain ⟨e506, h491, h492, h493, h494, h495, h496, h497, h498, h499, h500, h501, h502, h503, h504, h505⟩ := (show okX9 ad m_taped m_size m_faultKind m_faultPlace m_at m_end m_token m_number m_name m_bank m_rb m_codes m_within m_piled m_unitsInRule m_askStrand m_askTied m_thoughtClaim m_thoughtNeed m_thoughtAll m_acts m_undone m_laid m_firstMove m_seens m_time m_waysNow m_fitting 148 (f 148) from hT.1 148 (by decide))
    have ttl_0 := tl_0
    exact j56 f H locs ls v55_l1 (0 : Int32) (by omega) (by omega) (by omega) (by omega) (by omega) (hFr) hT hP hD hS (lv_sub hl [0, 1] rfl)
  have j36 : ∀ (f : Nat → va_E) (H : Heap) (locs : List Loc) (ls : Array Slot) (v36_s0 : Int32), (0 ≤ v36_s0.toInt ∧ v36_s0.toInt ≤ 1) → (0 ≤ m_end.toInt ∧ m_end.toInt ≤ 1600) → (1 ≤ m_piled.toInt ∧ m_piled.toInt ≤ 90) → (FrC c_code c_code m_rb) → (TYm ad cy fr0 c_text m_taped m_size m_faultKind m_faultPlace m_at m_end m_token m_number m_name c_points c_strands c_units c_told c_ruleFrom c_ruleTo c_code c_eWhat c_eSign m_bank m_rb m_codes m_within m_piled m_unitsInRule m_askStrand m_askTied m_thoughtClaim m_thoughtNeed m_thoughtAll c_roundOf m_acts m_undone m_laid m_firstMove m_seens m_time m_waysNow m_fitting f) → (va_P D vwCl (wl ad f) H) → (va_D A (wl ad f)) → (va_S A s.heap H locs) → (lv_has ls 7 [(0, .ref (ad 148))]) → W p l e (rmO 2 44 0 0) s m ([.ref (ad 148)] : List Value).toArray below meth c H locs 0 0 (MQ below (va_Qi (fun (r : Int32) (g : Nat → va_E) => ((r = 1) ∨ (r = 0)) ∧ (∃ (m_faultKind' : Int32) (m_faultPlace' : Int32) (m_at' : Int32) (m_end' : Int32) (m_token' : Int32) (m_number' : Int32) (m_name' : Int64) (c_units' : Nat → Int32) (c_code' : Nat → Int32) (c_eWhat' : Nat → Int32) (c_eSign' : Nat → Int32) (m_codes' : Int32) (m_within' : Int32) (m_piled' : Int32) (m_unitsInRule' : Int32), TYm ad cy fr0 c_text m_taped m_size m_faultKind' m_faultPlace' m_at' m_end' m_token' m_number' m_name' c_points c_strands c_units' c_told c_ruleFrom c_ruleTo c_code' c_eWhat' c_eSign' m_bank m_rb m_codes' m_within' m_piled' m_unitsInRule' m_askStrand m_askTied m_thoughtClaim m_thoughtNeed m_thoughtAll c_roundOf m_acts m_undone m_laid m_firstMove m_seens m_time m_waysNow m_fitting g ∧ (0 ≤ m_end'.toInt ∧ m_end'.toInt ≤ 1600) ∧ (1 ≤ m_piled'.toInt ∧ m_piled'.toInt ≤ 90) ∧ ((m_token'.toInt = 0 ∧ m_at'.toInt = m_size.toInt ∧ m_end'.toInt = m_size.toInt) ∨ (1 ≤ m_token'.toInt ∧ m_at'.toInt < m_end'.toInt ∧ m_end'.toInt ≤ m_size.toInt)) ∧ m_at.toInt ≤ m_at'.toInt ∧ (0 ≤ m_within'.toInt ∧ m_within'.toInt ≤ 7 ∧ m_within'.toInt = cQZ c_eWhat' m_piled'.toInt) ∧ (0 ≤ m_unitsInRule'.toInt ∧ m_unitsInRule'.toInt ≤ 30) ∧ ((c_ruleFrom m_rb.toNatClampNeg).toInt = 560 * m_rb.toInt ∧ 0 ≤ m_rb.toInt ∧ m_rb.toInt ≤ 1 ∧ (c_ruleFrom m_rb.toNatClampNeg).toInt ≤ m_codes'.toInt) ∧ (dpZ c_code' (c_ruleFrom m_rb.toNatClampNeg) m_codes'.toInt ≤ m_unitsInRule'.toInt ∧ 0 ≤ cPZ c_eWhat' m_piled'.toInt) ∧ (m_piled'.toInt ≤ 1 + m_within'.toInt + cPZ c_eWhat' m_piled'.toInt ∧ 0 ≤ m_piled'.toInt) ∧ (r.toInt = 1 → (cPZ c_eWhat' m_piled'.toInt ≤ dpZ c_code' (c_ruleFrom m_rb.toNatClampNeg) m_codes'.toInt ∧ m_codes'.toInt - (c_ruleFrom m_rb.toNatClampNeg).toInt + dpZ c_code' (c_ruleFrom m_rb.toNatClampNeg) m_codes'.toInt ≤ 16 * m_unitsInRule'.toInt + m_within'.toInt)) ∧ (r.toInt = 0 → (cPZ c_eWhat' m_piled'.toInt + 1 ≤ dpZ c_code' (c_ruleFrom m_rb.toNatClampNeg) m_codes'.toInt ∧ m_codes'.toInt - (c_ruleFrom m_rb.toNatClampNeg).toInt + dpZ c_code' (c_ruleFrom m_rb.toNatClampNeg) m_codes'.toInt + m_within'.toInt ≤ 16 * m_unitsInRule'.toInt)) ∧ 1 ≤ m_piled'.toInt ∧ (1 ≤ m_faultKind'.toInt ∨ (m_at.toInt < m_at'.toInt ∧ m_piled'.toInt ≤ m_piled.toInt + 1)) ∧ SGp c_eWhat' c_eSign' m_piled'.toInt ∧ okcZ c_code' (c_ruleFrom m_rb.toNatClampNeg) m_codes'.toInt ∧ FrC c_code c_code' m_rb)) (fun g t => PstT D ad g t) A) ([.ref (ad 148)] : List Value).toArray s 0 0 A) (F0 m 36 ls [.int v36_s0]) := by
    intro f H locs ls v36_s0 hv36_s0 hv36_p_m_end hv36_p_m_piled hFr hT hP hD hS hl
    refine lv_istore_n (lv' := [(1, .int v36_s0), (0, .ref (ad 148))]) hx hb dX9_unit_36 rfl hl (by decide) rfl (fun ls hl => ?_)
    refine lv_iload_n hx hb dX9_unit_37 rfl (lv_at hl 0 rfl) ?_
    have ttl_0 := tl_0
    refine lv_if_eq (tgt := 55) hx hb dX9_unit_38 (by decide) (fun c507 => ?_) (fun c507 => ?_)
    · have kc507 := c_eq c507
      obtain ⟨e523, h508, h509, h510, h511, h512, h513, h514, h515, h516, h517, h518, h519, h520, h521, h522⟩ := (show okX9 ad m_taped m_size m_faultKind m_faultPlace m_at m_end m_token m_number m_name m_bank m_rb m_codes m_within m_piled m_unitsInRule m_askStrand m_askTied m_thoughtClaim m_thoughtNeed m_thoughtAll m_acts m_undone m_laid m_firstMove m_seens m_time m_waysNow m_fitting 148 (f 148) from hT.1 148 (by decide))
      exact j55 f H locs ls v36_s0 (by omega) (by omega) (by omega) (hFr) hT hP hD hS (lv_sub hl [0, 1] rfl)
    · have kc507 := c_ne c507
      refine lv_aload_n hx hb dX9_unit_41 rfl (lv_at hl 1 rfl) ?_
      have ttlj_7237492 := tlj_7237492
      refine lv_ldc2 (v := 7237492) hx hb hown (hts (.constantLong RX9 169 (7237492)) (List.mem_of_getElem? (i := 3) rfl)) dX9_unit_42 ?_
      obtain ⟨e539, h524, h525, h526, h527, h528, h529, h530, h531, h532, h533, h534, h535, h536, h537, h538⟩ := (show okX9 ad m_taped m_size m_faultKind m_faultPlace m_at m_end m_token m_number m_name m_bank m_rb m_codes m_within m_piled m_unitsInRule m_askStrand m_askTied m_thoughtClaim m_thoughtNeed m_thoughtAll m_acts m_undone m_laid m_firstMove m_seens m_time m_waysNow m_fitting 148 (f 148) from hT.1 148 (by decide))
      refine tVI (As := [.long 7237492]) (rest := []) (i := 148) ⟨hx, hb, hml, hown, hts⟩ hK hE hP hD hS hA hAB (s_X9_isWord_0 l B0 adK adV D cy ad fr0 c_text m_taped m_size m_faultKind m_faultPlace m_at m_end m_token m_number m_name c_points c_strands c_units c_told c_ruleFrom c_ruleTo c_code c_eWhat c_eSign m_bank m_rb m_codes m_within m_piled m_unitsInRule m_askStrand m_askTied m_thoughtClaim m_thoughtNeed m_thoughtAll c_roundOf m_acts m_undone m_laid m_firstMove m_seens m_time m_waysNow m_fitting f hT (7237492 : Int64) _) (cwV 1 hts gX9_unit_X9_isWord rfl rfl rfl (by decide +kernel) ⟨Nat.le_of_ble_eq_true rfl, Nat.le_of_ble_eq_true rfl⟩) (by decide) 9 e539 rfl rfl hl.1 rfl (Nat.le_of_ble_eq_true rfl) dX9_unit_45 ⟨Nat.le_of_ble_eq_true rfl, Nat.le_of_ble_eq_true rfl⟩ (fun r g H locs hw hP hD hS => ?_)
      obtain ⟨hrs, rfl⟩ := hw
      obtain ⟨x540, rfl⟩ : ∃ q, q = r := ⟨_, rfl⟩
      rcases hrs with ⟨rfl, h541, h542⟩ | ⟨rfl, h543⟩
      · refine lv_if_eq (tgt := 55) hx hb dX9_unit_48 (by decide) (fun c => absurd c (by decide)) (fun _ => ?_)
        refine lv_iconst (v := 1) hx hb dX9_unit_51 (by decide) ?_
        refine lv_goto (tgt := 56) hx hb dX9_unit_52 (by decide) ?_
        have ttl_1 := tl_1
        exact j56 f H locs ls v36_s0 (1 : Int32) (by omega) (by omega) (by omega) (by omega) (by omega) (hFr) hT hP hD hS (lv_sub hl [0, 1] rfl)
      · refine lv_if_eq (tgt := 55) hx hb dX9_unit_48 (by decide) (fun _ => ?_) (fun c => absurd (by decide) c)
        exact j55 f H locs ls v36_s0 (by omega) (by omega) (by omega) (hFr) hT hP hD hS (lv_sub hl [0, 1] rfl)
  have j31 : ∀ (f : Nat → va_E) (H : Heap) (locs : List Loc) (ls : Array Slot), (0 ≤ m_end.toInt ∧ m_end.toInt ≤ 1600) → (1 ≤ m_piled.toInt ∧ m_piled.toInt ≤ 90) → (FrC c_code c_code m_rb) → (TYm ad cy fr0 c_text m_taped m_size m_faultKind m_faultPlace m_at m_end m_token m_number m_name c_points c_strands c_units c_told c_ruleFrom c_ruleTo c_code c_eWhat c_eSign m_bank m_rb m_codes m_within m_piled m_unitsInRule m_askStrand m_askTied m_thoughtClaim m_thoughtNeed m_thoughtAll c_roundOf m_acts m_undone m_laid m_firstMove m_seens m_time m_waysNow m_fitting f) → (va_P D vwCl (wl ad f) H) → (va_D A (wl ad f)) → (va_S A s.heap H locs) → (lv_has ls 7 [(0, .ref (ad 148))]) → W p l e (rmO 2 44 0 0) s m ([.ref (ad 148)] : List Value).toArray below meth c H locs 0 0 (MQ below (va_Qi (fun (r : Int32) (g : Nat → va_E) => ((r = 1) ∨ (r = 0)) ∧ (∃ (m_faultKind' : Int32) (m_faultPlace' : Int32) (m_at' : Int32) (m_end' : Int32) (m_token' : Int32) (m_number' : Int32) (m_name' : Int64) (c_units' : Nat → Int32) (c_code' : Nat → Int32) (c_eWhat' : Nat → Int32) (c_eSign' : Nat → Int32) (m_codes' : Int32) (m_within' : Int32) (m_piled' : Int32) (m_unitsInRule' : Int32), TYm ad cy fr0 c_text m_taped m_size m_faultKind' m_faultPlace' m_at' m_end' m_token' m_number' m_name' c_points c_strands c_units' c_told c_ruleFrom c_ruleTo c_code' c_eWhat' c_eSign' m_bank m_rb m_codes' m_within' m_piled' m_unitsInRule' m_askStrand m_askTied m_thoughtClaim m_thoughtNeed m_thoughtAll c_roundOf m_acts m_undone m_laid m_firstMove m_seens m_time m_waysNow m_fitting g ∧ (0 ≤ m_end'.toInt ∧ m_end'.toInt ≤ 1600) ∧ (1 ≤ m_piled'.toInt ∧ m_piled'.toInt ≤ 90) ∧ ((m_token'.toInt = 0 ∧ m_at'.toInt = m_size.toInt ∧ m_end'.toInt = m_size.toInt) ∨ (1 ≤ m_token'.toInt ∧ m_at'.toInt < m_end'.toInt ∧ m_end'.toInt ≤ m_size.toInt)) ∧ m_at.toInt ≤ m_at'.toInt ∧ (0 ≤ m_within'.toInt ∧ m_within'.toInt ≤ 7 ∧ m_within'.toInt = cQZ c_eWhat' m_piled'.toInt) ∧ (0 ≤ m_unitsInRule'.toInt ∧ m_unitsInRule'.toInt ≤ 30) ∧ ((c_ruleFrom m_rb.toNatClampNeg).toInt = 560 * m_rb.toInt ∧ 0 ≤ m_rb.toInt ∧ m_rb.toInt ≤ 1 ∧ (c_ruleFrom m_rb.toNatClampNeg).toInt ≤ m_codes'.toInt) ∧ (dpZ c_code' (c_ruleFrom m_rb.toNatClampNeg) m_codes'.toInt ≤ m_unitsInRule'.toInt ∧ 0 ≤ cPZ c_eWhat' m_piled'.toInt) ∧ (m_piled'.toInt ≤ 1 + m_within'.toInt + cPZ c_eWhat' m_piled'.toInt ∧ 0 ≤ m_piled'.toInt) ∧ (r.toInt = 1 → (cPZ c_eWhat' m_piled'.toInt ≤ dpZ c_code' (c_ruleFrom m_rb.toNatClampNeg) m_codes'.toInt ∧ m_codes'.toInt - (c_ruleFrom m_rb.toNatClampNeg).toInt + dpZ c_code' (c_ruleFrom m_rb.toNatClampNeg) m_codes'.toInt ≤ 16 * m_unitsInRule'.toInt + m_within'.toInt)) ∧ (r.toInt = 0 → (cPZ c_eWhat' m_piled'.toInt + 1 ≤ dpZ c_code' (c_ruleFrom m_rb.toNatClampNeg) m_codes'.toInt ∧ m_codes'.toInt - (c_ruleFrom m_rb.toNatClampNeg).toInt + dpZ c_code' (c_ruleFrom m_rb.toNatClampNeg) m_codes'.toInt + m_within'.toInt ≤ 16 * m_unitsInRule'.toInt)) ∧ 1 ≤ m_piled'.toInt ∧ (1 ≤ m_faultKind'.toInt ∨ (m_at.toInt < m_at'.toInt ∧ m_piled'.toInt ≤ m_piled.toInt + 1)) ∧ SGp c_eWhat' c_eSign' m_piled'.toInt ∧ okcZ c_code' (c_ruleFrom m_rb.toNatClampNeg) m_codes'.toInt ∧ FrC c_code c_code' m_rb)) (fun g t => PstT D ad g t) A) ([.ref (ad 148)] : List Value).toArray s 0 0 A) (F0 m 31 ls []) := by
    intro f H locs ls hv31_p_m_end hv31_p_m_piled hFr hT hP hD hS hl
    refine lv_iconst (v := 1) hx hb dX9_unit_31 (by decide) ?_
    refine lv_goto (tgt := 36) hx hb dX9_unit_32 (by decide) ?_
    obtain ⟨e559, h544, h545, h546, h547, h548, h549, h550, h551, h552, h553, h554, h555, h556, h557, h558⟩ := (show okX9 ad m_taped m_size m_faultKind m_faultPlace m_at m_end m_token m_number m_name m_bank m_rb m_codes m_within m_piled m_unitsInRule m_askStrand m_askTied m_thoughtClaim m_thoughtNeed m_thoughtAll m_acts m_undone m_laid m_firstMove m_seens m_time m_waysNow m_fitting 148 (f 148) from hT.1 148 (by decide))
    have ttl_1 := tl_1
    exact j36 f H locs ls (1 : Int32) (by omega) (by omega) (by omega) (hFr) hT hP hD hS (lv_sub hl [0] rfl)
  have hFr := FrC_rf c_code m_rb
  have ha560 : 1 ≤ m_piled.toInt := by omega
  refine lv_aload_n hx hb dX9_unit_0 rfl (lv_at hl 0 rfl) ?_
  obtain ⟨e576, h561, h562, h563, h564, h565, h566, h567, h568, h569, h570, h571, h572, h573, h574, h575⟩ := (show okX9 ad m_taped m_size m_faultKind m_faultPlace m_at m_end m_token m_number m_name m_bank m_rb m_codes m_within m_piled m_unitsInRule m_askStrand m_askTied m_thoughtClaim m_thoughtNeed m_thoughtAll m_acts m_undone m_laid m_firstMove m_seens m_time m_waysNow m_fitting 148 (f 148) from hT.1 148 (by decide))
  refine va_get (D := D) (cl := vwCl) (ci := 9) (v := .ref (ad 166)) (C := RX9) (T := TX9) (N := 64) hx hb hts in_X9_unit_X9 hown hK hP 148 (wl_at (by decide) e576) rfl 26 (by decide) (hts (.fieldLink RX9 67 "EightReasonsModel" "eWhat" "[I") (List.mem_of_getElem? (i := 1) rfl)) (fun _ h9 => h9) rfl dX9_unit_1 ?_
  refine lv_aload_n hx hb dX9_unit_4 rfl (lv_at hl 0 rfl) ?_
  refine va_get (D := D) (cl := vwCl) (ci := 9) (v := .int m_piled) (C := RX9) (T := TX9) (N := 64) hx hb hts in_X9_unit_X9 hown hK hP 148 (wl_at (by decide) e576) rfl 33 (by decide) (hts (.fieldLink RX9 285 "EightReasonsModel" "piled" "I") (List.mem_of_getElem? (i := 2) rfl)) (fun _ h9 => h9) rfl dX9_unit_5 ?_
  refine lv_iconst (v := 1) hx hb dX9_unit_8 (by decide) ?_
  have ttl_1 := tl_1
  refine lv_isub hx hb dX9_unit_9 ?_
  refine lv_topi (fun x577 ex577 => ?_)
  have hx577 := r_sub ex577 (by omega) (by omega)
  have e578 : f 166 = _ := (show okIp cy 90 c_eWhat (f 166) from hT.1 166 (by decide))
  refine va_iald hx hb hK hP 166 0 (wl_at (by decide) e578) rfl (vp_in_iff.mpr ⟨by omega, by omega⟩) dX9_unit_10 ?_
  refine lv_topi (fun x579 ex579 => ?_)
  have kx579 := congrArg Int32.toInt ex579
  refine lv_iconst (v := 3) hx hb dX9_unit_11 (by decide) ?_
  have ttl_3 := tl_3
  refine lv_icmp_le (tgt := 31) hx hb dX9_unit_12 (by decide) (fun c580 => ?_) (fun c580 => ?_)
  · have kc580 := c_le c580
    exact j31 f H locs ls (by omega) (by omega) (hFr) hT hP hD hS (lv_sub hl [0] rfl)
  · have kc580 := c_nle c580
    refine lv_aload_n hx hb dX9_unit_15 rfl (lv_at hl 0 rfl) ?_
    refine va_get (D := D) (cl := vwCl) (ci := 9) (v := .ref (ad 166)) (C := RX9) (T := TX9) (N := 64) hx hb hts in_X9_unit_X9 hown hK hP 148 (wl_at (by decide) e576) rfl 26 (by decide) (hts (.fieldLink RX9 67 "EightReasonsModel" "eWhat" "[I") (List.mem_of_getElem? (i := 1) rfl)) (fun _ h9 => h9) rfl dX9_unit_16 ?_
    refine lv_aload_n hx hb dX9_unit_19 rfl (lv_at hl 0 rfl) ?_
    refine va_get (D := D) (cl := vwCl) (ci := 9) (v := .int m_piled) (C := RX9) (T := TX9) (N := 64) hx hb hts in_X9_unit_X9 hown hK hP 148 (wl_at (by decide) e576) rfl 33 (by decide) (hts (.fieldLink RX9 285 "EightReasonsModel" "piled" "I") (List.mem_of_getElem? (i := 2) rfl)) (fun _ h9 => h9) rfl dX9_unit_20 ?_
    refine lv_iconst (v := 1) hx hb dX9_unit_23 (by decide) ?_
    refine lv_isub hx hb dX9_unit_24 ?_
    refine lv_topi (fun x581 ex581 => ?_)
    have hx581 := r_sub ex581 (by omega) (by omega)
    refine va_iald hx hb hK hP 166 0 (wl_at (by decide) e578) rfl (vp_in_iff.mpr ⟨by omega, by omega⟩) dX9_unit_25 ?_
    refine lv_topi (fun x582 ex582 => ?_)
    have kx582 := congrArg Int32.toInt ex582
    refine lv_bipush (v := 7) hx hb dX9_unit_26 (by decide) ?_
    have ttl_7 := tl_7
    refine lv_icmp_lt (tgt := 35) hx hb dX9_unit_28 (by decide) (fun c583 => ?_) (fun c583 => ?_)
    · have kc583 := c_lt c583
      refine lv_iconst (v := 0) hx hb dX9_unit_35 (by decide) ?_
      have ttl_0 := tl_0
      exact j36 f H locs ls (0 : Int32) (by omega) (by omega) (by omega) (hFr) hT hP hD hS (lv_sub hl [0] rfl)
    · have kc583 := c_nlt c583
      exact j31 f H locs ls (by omega) (by omega) (hFr) hT hP hD hS (lv_sub hl [0] rfl)
