theorem dX9_sign_0 : decode cX9_sign 0 = .ok (.iload_n 1, 1) := by decide +kernel
theorem dX9_sign_1 : decode cX9_sign 1 = .ok (.aload_n 0, 1) := by decide +kernel
theorem dX9_sign_2 : decode cX9_sign 2 = .ok (.getfield 137, 3) := by decide +kernel
theorem dX9_sign_5 : decode cX9_sign 5 = .ok (.if_icmp .ge 16, 3) := by decide +kernel
theorem dX9_sign_8 : decode cX9_sign 8 = .ok (.aload_n 0, 1) := by decide +kernel
theorem dX9_sign_9 : decode cX9_sign 9 = .ok (.getfield 13, 3) := by decide +kernel
theorem dX9_sign_12 : decode cX9_sign 12 = .ok (.iload_n 1, 1) := by decide +kernel
theorem dX9_sign_13 : decode cX9_sign 13 = .ok (.baload, 1) := by decide +kernel
theorem dX9_sign_14 : decode cX9_sign 14 = .ok (.sipush 255, 3) := by decide +kernel
theorem dX9_sign_17 : decode cX9_sign 17 = .ok (.iand, 1) := by decide +kernel
theorem dX9_sign_18 : decode cX9_sign 18 = .ok (.goto 4, 3) := by decide +kernel
theorem dX9_sign_21 : decode cX9_sign 21 = .ok (.iconst 0, 1) := by decide +kernel
theorem dX9_sign_22 : decode cX9_sign 22 = .ok (.ireturn, 1) := by decide +kernel
theorem dX9_isLetter_0 : decode cX9_isLetter 0 = .ok (.iload_n 0, 1) := by decide +kernel
theorem dX9_isLetter_1 : decode cX9_isLetter 1 = .ok (.bipush 97, 2) := by decide +kernel
theorem dX9_isLetter_3 : decode cX9_isLetter 3 = .ok (.if_icmp .lt 13, 3) := by decide +kernel
theorem dX9_isLetter_6 : decode cX9_isLetter 6 = .ok (.iload_n 0, 1) := by decide +kernel
theorem dX9_isLetter_7 : decode cX9_isLetter 7 = .ok (.bipush 122, 2) := by decide +kernel
theorem dX9_isLetter_9 : decode cX9_isLetter 9 = .ok (.if_icmp .gt 7, 3) := by decide +kernel
theorem dX9_isLetter_12 : decode cX9_isLetter 12 = .ok (.iconst 1, 1) := by decide +kernel
theorem dX9_isLetter_13 : decode cX9_isLetter 13 = .ok (.goto 4, 3) := by decide +kernel
theorem dX9_isLetter_16 : decode cX9_isLetter 16 = .ok (.iconst 0, 1) := by decide +kernel
theorem dX9_isLetter_17 : decode cX9_isLetter 17 = .ok (.ireturn, 1) := by decide +kernel
theorem dX9_isDigit_0 : decode cX9_isDigit 0 = .ok (.iload_n 0, 1) := by decide +kernel
theorem dX9_isDigit_1 : decode cX9_isDigit 1 = .ok (.bipush 48, 2) := by decide +kernel
theorem dX9_isDigit_3 : decode cX9_isDigit 3 = .ok (.if_icmp .lt 13, 3) := by decide +kernel
theorem dX9_isDigit_6 : decode cX9_isDigit 6 = .ok (.iload_n 0, 1) := by decide +kernel
theorem dX9_isDigit_7 : decode cX9_isDigit 7 = .ok (.bipush 57, 2) := by decide +kernel
theorem dX9_isDigit_9 : decode cX9_isDigit 9 = .ok (.if_icmp .gt 7, 3) := by decide +kernel
theorem dX9_isDigit_12 : decode cX9_isDigit 12 = .ok (.iconst 1, 1) := by decide +kernel
theorem dX9_isDigit_13 : decode cX9_isDigit 13 = .ok (.goto 4, 3) := by decide +kernel
theorem dX9_isDigit_16 : decode cX9_isDigit 16 = .ok (.iconst 0, 1) := by decide +kernel
theorem dX9_isDigit_17 : decode cX9_isDigit 17 = .ok (.ireturn, 1) := by decide +kernel
theorem dX9_isKept_0 : decode cX9_isKept 0 = .ok (.lload_n 0, 1) := by decide +kernel
theorem dX9_isKept_1 : decode cX9_isKept 1 = .ok (.ldc2_w 143, 3) := by decide +kernel
theorem dX9_isKept_4 : decode cX9_isKept 4 = .ok (.lcmp, 1) := by decide +kernel
theorem dX9_isKept_5 : decode cX9_isKept 5 = .ok (.ifCond .eq 51, 3) := by decide +kernel
theorem dX9_isKept_8 : decode cX9_isKept 8 = .ok (.lload_n 0, 1) := by decide +kernel
theorem dX9_isKept_9 : decode cX9_isKept 9 = .ok (.ldc2_w 145, 3) := by decide +kernel
theorem dX9_isKept_12 : decode cX9_isKept 12 = .ok (.lcmp, 1) := by decide +kernel
theorem dX9_isKept_13 : decode cX9_isKept 13 = .ok (.ifCond .eq 43, 3) := by decide +kernel
theorem dX9_isKept_16 : decode cX9_isKept 16 = .ok (.lload_n 0, 1) := by decide +kernel
theorem dX9_isKept_17 : decode cX9_isKept 17 = .ok (.ldc2_w 147, 3) := by decide +kernel
theorem dX9_isKept_20 : decode cX9_isKept 20 = .ok (.lcmp, 1) := by decide +kernel
theorem dX9_isKept_21 : decode cX9_isKept 21 = .ok (.ifCond .eq 35, 3) := by decide +kernel
theorem dX9_isKept_24 : decode cX9_isKept 24 = .ok (.lload_n 0, 1) := by decide +kernel
theorem dX9_isKept_25 : decode cX9_isKept 25 = .ok (.ldc2_w 149, 3) := by decide +kernel
theorem dX9_isKept_28 : decode cX9_isKept 28 = .ok (.lcmp, 1) := by decide +kernel
theorem dX9_isKept_29 : decode cX9_isKept 29 = .ok (.ifCond .eq 27, 3) := by decide +kernel
theorem dX9_isKept_32 : decode cX9_isKept 32 = .ok (.lload_n 0, 1) := by decide +kernel
theorem dX9_isKept_33 : decode cX9_isKept 33 = .ok (.ldc2_w 151, 3) := by decide +kernel
theorem dX9_isKept_36 : decode cX9_isKept 36 = .ok (.lcmp, 1) := by decide +kernel
theorem dX9_isKept_37 : decode cX9_isKept 37 = .ok (.ifCond .eq 19, 3) := by decide +kernel
theorem dX9_isKept_40 : decode cX9_isKept 40 = .ok (.lload_n 0, 1) := by decide +kernel
theorem dX9_isKept_41 : decode cX9_isKept 41 = .ok (.ldc2_w 153, 3) := by decide +kernel
theorem dX9_isKept_44 : decode cX9_isKept 44 = .ok (.lcmp, 1) := by decide +kernel
theorem dX9_isKept_45 : decode cX9_isKept 45 = .ok (.ifCond .eq 11, 3) := by decide +kernel
theorem dX9_isKept_48 : decode cX9_isKept 48 = .ok (.lload_n 0, 1) := by decide +kernel
theorem dX9_isKept_49 : decode cX9_isKept 49 = .ok (.ldc2_w 155, 3) := by decide +kernel
theorem dX9_isKept_52 : decode cX9_isKept 52 = .ok (.lcmp, 1) := by decide +kernel
theorem dX9_isKept_53 : decode cX9_isKept 53 = .ok (.ifCond .ne 7, 3) := by decide +kernel
theorem dX9_isKept_56 : decode cX9_isKept 56 = .ok (.iconst 1, 1) := by decide +kernel
theorem dX9_isKept_57 : decode cX9_isKept 57 = .ok (.goto 4, 3) := by decide +kernel
theorem dX9_isKept_60 : decode cX9_isKept 60 = .ok (.iconst 0, 1) := by decide +kernel
theorem dX9_isKept_61 : decode cX9_isKept 61 = .ok (.istore_n 2, 1) := by decide +kernel
theorem dX9_isKept_62 : decode cX9_isKept 62 = .ok (.iload_n 2, 1) := by decide +kernel
theorem dX9_isKept_63 : decode cX9_isKept 63 = .ok (.ifCond .ne 59, 3) := by decide +kernel
theorem dX9_isKept_66 : decode cX9_isKept 66 = .ok (.lload_n 0, 1) := by decide +kernel
theorem dX9_isKept_67 : decode cX9_isKept 67 = .ok (.ldc2_w 157, 3) := by decide +kernel
theorem dX9_isKept_70 : decode cX9_isKept 70 = .ok (.lcmp, 1) := by decide +kernel
theorem dX9_isKept_71 : decode cX9_isKept 71 = .ok (.ifCond .eq 51, 3) := by decide +kernel
theorem dX9_isKept_74 : decode cX9_isKept 74 = .ok (.lload_n 0, 1) := by decide +kernel
theorem dX9_isKept_75 : decode cX9_isKept 75 = .ok (.ldc2_w 159, 3) := by decide +kernel
theorem dX9_isKept_78 : decode cX9_isKept 78 = .ok (.lcmp, 1) := by decide +kernel
theorem dX9_isKept_79 : decode cX9_isKept 79 = .ok (.ifCond .eq 43, 3) := by decide +kernel
theorem dX9_isKept_82 : decode cX9_isKept 82 = .ok (.lload_n 0, 1) := by decide +kernel
theorem dX9_isKept_83 : decode cX9_isKept 83 = .ok (.ldc2_w 161, 3) := by decide +kernel
theorem dX9_isKept_86 : decode cX9_isKept 86 = .ok (.lcmp, 1) := by decide +kernel
theorem dX9_isKept_87 : decode cX9_isKept 87 = .ok (.ifCond .eq 35, 3) := by decide +kernel
theorem dX9_isKept_90 : decode cX9_isKept 90 = .ok (.lload_n 0, 1) := by decide +kernel
theorem dX9_isKept_91 : decode cX9_isKept 91 = .ok (.ldc2_w 163, 3) := by decide +kernel
theorem dX9_isKept_94 : decode cX9_isKept 94 = .ok (.lcmp, 1) := by decide +kernel
theorem dX9_isKept_95 : decode cX9_isKept 95 = .ok (.ifCond .eq 27, 3) := by decide +kernel
theorem dX9_isKept_98 : decode cX9_isKept 98 = .ok (.lload_n 0, 1) := by decide +kernel
theorem dX9_isKept_99 : decode cX9_isKept 99 = .ok (.ldc2_w 165, 3) := by decide +kernel
theorem dX9_isKept_102 : decode cX9_isKept 102 = .ok (.lcmp, 1) := by decide +kernel
theorem dX9_isKept_103 : decode cX9_isKept 103 = .ok (.ifCond .eq 19, 3) := by decide +kernel
theorem dX9_isKept_106 : decode cX9_isKept 106 = .ok (.lload_n 0, 1) := by decide +kernel
theorem dX9_isKept_107 : decode cX9_isKept 107 = .ok (.ldc2_w 167, 3) := by decide +kernel
theorem dX9_isKept_110 : decode cX9_isKept 110 = .ok (.lcmp, 1) := by decide +kernel
theorem dX9_isKept_111 : decode cX9_isKept 111 = .ok (.ifCond .eq 11, 3) := by decide +kernel
theorem dX9_isKept_114 : decode cX9_isKept 114 = .ok (.lload_n 0, 1) := by decide +kernel
theorem dX9_isKept_115 : decode cX9_isKept 115 = .ok (.ldc2_w 169, 3) := by decide +kernel
theorem dX9_isKept_118 : decode cX9_isKept 118 = .ok (.lcmp, 1) := by decide +kernel
theorem dX9_isKept_119 : decode cX9_isKept 119 = .ok (.ifCond .ne 7, 3) := by decide +kernel
theorem dX9_isKept_122 : decode cX9_isKept 122 = .ok (.iconst 1, 1) := by decide +kernel
theorem dX9_isKept_123 : decode cX9_isKept 123 = .ok (.goto 4, 3) := by decide +kernel
theorem dX9_isKept_126 : decode cX9_isKept 126 = .ok (.iconst 0, 1) := by decide +kernel
theorem dX9_isKept_127 : decode cX9_isKept 127 = .ok (.ireturn, 1) := by decide +kernel
theorem dX9_isSign_0 : decode cX9_isSign 0 = .ok (.iload_n 0, 1) := by decide +kernel
theorem dX9_isSign_1 : decode cX9_isSign 1 = .ok (.bipush 59, 2) := by decide +kernel
theorem dX9_isSign_3 : decode cX9_isSign 3 = .ok (.if_icmp .eq 63, 3) := by decide +kernel
theorem dX9_isSign_6 : decode cX9_isSign 6 = .ok (.iload_n 0, 1) := by decide +kernel
theorem dX9_isSign_7 : decode cX9_isSign 7 = .ok (.bipush 40, 2) := by decide +kernel
theorem dX9_isSign_9 : decode cX9_isSign 9 = .ok (.if_icmp .eq 57, 3) := by decide +kernel
theorem dX9_isSign_12 : decode cX9_isSign 12 = .ok (.iload_n 0, 1) := by decide +kernel
theorem dX9_isSign_13 : decode cX9_isSign 13 = .ok (.bipush 41, 2) := by decide +kernel
theorem dX9_isSign_15 : decode cX9_isSign 15 = .ok (.if_icmp .eq 51, 3) := by decide +kernel
theorem dX9_isSign_18 : decode cX9_isSign 18 = .ok (.iload_n 0, 1) := by decide +kernel
theorem dX9_isSign_19 : decode cX9_isSign 19 = .ok (.bipush 60, 2) := by decide +kernel
theorem dX9_isSign_21 : decode cX9_isSign 21 = .ok (.if_icmp .eq 45, 3) := by decide +kernel
theorem dX9_isSign_24 : decode cX9_isSign 24 = .ok (.iload_n 0, 1) := by decide +kernel
theorem dX9_isSign_25 : decode cX9_isSign 25 = .ok (.bipush 62, 2) := by decide +kernel
theorem dX9_isSign_27 : decode cX9_isSign 27 = .ok (.if_icmp .eq 39, 3) := by decide +kernel
theorem dX9_isSign_30 : decode cX9_isSign 30 = .ok (.iload_n 0, 1) := by decide +kernel
theorem dX9_isSign_31 : decode cX9_isSign 31 = .ok (.bipush 61, 2) := by decide +kernel
theorem dX9_isSign_33 : decode cX9_isSign 33 = .ok (.if_icmp .eq 33, 3) := by decide +kernel
theorem dX9_isSign_36 : decode cX9_isSign 36 = .ok (.iload_n 0, 1) := by decide +kernel
theorem dX9_isSign_37 : decode cX9_isSign 37 = .ok (.bipush 43, 2) := by decide +kernel
theorem dX9_isSign_39 : decode cX9_isSign 39 = .ok (.if_icmp .eq 27, 3) := by decide +kernel
theorem dX9_isSign_42 : decode cX9_isSign 42 = .ok (.iload_n 0, 1) := by decide +kernel
theorem dX9_isSign_43 : decode cX9_isSign 43 = .ok (.bipush 45, 2) := by decide +kernel
theorem dX9_isSign_45 : decode cX9_isSign 45 = .ok (.if_icmp .eq 21, 3) := by decide +kernel
theorem dX9_isSign_48 : decode cX9_isSign 48 = .ok (.iload_n 0, 1) := by decide +kernel
theorem dX9_isSign_49 : decode cX9_isSign 49 = .ok (.bipush 42, 2) := by decide +kernel
theorem dX9_isSign_51 : decode cX9_isSign 51 = .ok (.if_icmp .eq 15, 3) := by decide +kernel
theorem dX9_isSign_54 : decode cX9_isSign 54 = .ok (.iload_n 0, 1) := by decide +kernel
theorem dX9_isSign_55 : decode cX9_isSign 55 = .ok (.bipush 47, 2) := by decide +kernel
theorem dX9_isSign_57 : decode cX9_isSign 57 = .ok (.if_icmp .eq 9, 3) := by decide +kernel
theorem dX9_isSign_60 : decode cX9_isSign 60 = .ok (.iload_n 0, 1) := by decide +kernel
theorem dX9_isSign_61 : decode cX9_isSign 61 = .ok (.bipush 37, 2) := by decide +kernel
theorem dX9_isSign_63 : decode cX9_isSign 63 = .ok (.if_icmp .ne 7, 3) := by decide +kernel
theorem dX9_isSign_66 : decode cX9_isSign 66 = .ok (.iconst 1, 1) := by decide +kernel
theorem dX9_isSign_67 : decode cX9_isSign 67 = .ok (.goto 4, 3) := by decide +kernel
theorem dX9_isSign_70 : decode cX9_isSign 70 = .ok (.iconst 0, 1) := by decide +kernel
theorem dX9_isSign_71 : decode cX9_isSign 71 = .ok (.ireturn, 1) := by decide +kernel
set_option maxRecDepth 20000 in
theorem ggX9_goOn_X9_sign : GoodIn wsX9_goOn wsX9_sign := goodIn_r _ [11, 3, 12, 39, 40, 41, 42, 43, 44, 45, 46, 47, 48, 49, 50, 51, 52, 53, 54, 55, 56, 57, 58, 59, 60, 61, 62, 63, 64, 65, 66, 67, 68, 69, 70, 71, 72, 73, 74, 75, 76, 77, 78, 79, 80, 81, 82, 83, 84, 85, 86, 87, 88, 89, 90, 91, 92, 93, 94, 95, 96, 97, 98, 99, 100, 101, 102] rfl rfl
set_option maxRecDepth 20000 in
theorem gX9_goOn_X9_sign : GoodIn wsX9_goOn (wsV RX9 177 RX9 yX9_sign wsX9_sign) := goodIn_app (goodIn_of _ (by decide +kernel)) ggX9_goOn_X9_sign
set_option maxRecDepth 20000 in
theorem ggX9_goOn_X9_isLetter : GoodIn wsX9_goOn wsX9_isLetter := goodIn_r _ [15] rfl rfl
set_option maxRecDepth 20000 in
theorem gX9_goOn_X9_isLetter : GoodIn wsX9_goOn (va_wsS RX9 184 yX9_isLetter wsX9_isLetter) := goodIn_app (goodIn_of _ (by decide +kernel)) ggX9_goOn_X9_isLetter
set_option maxRecDepth 20000 in
theorem ggX9_goOn_X9_isKept : GoodIn wsX9_goOn wsX9_isKept := goodIn_r _ [18, 19, 20, 21, 22, 23, 24, 25, 26, 27, 28, 29, 30, 31, 32] rfl rfl
set_option maxRecDepth 20000 in
theorem gX9_goOn_X9_isKept : GoodIn wsX9_goOn (va_wsS RX9 192 yX9_isKept wsX9_isKept) := goodIn_app (goodIn_of _ (by decide +kernel)) ggX9_goOn_X9_isKept
set_option maxRecDepth 20000 in
theorem ggX9_goOn_X9_isDigit : GoodIn wsX9_goOn wsX9_isDigit := goodIn_r _ [35] rfl rfl
set_option maxRecDepth 20000 in
theorem gX9_goOn_X9_isDigit : GoodIn wsX9_goOn (va_wsS RX9 196 yX9_isDigit wsX9_isDigit) := goodIn_app (goodIn_of _ (by decide +kernel)) ggX9_goOn_X9_isDigit
set_option maxRecDepth 20000 in
theorem ggX9_goOn_X9_isSign : GoodIn wsX9_goOn wsX9_isSign := goodIn_r _ [38] rfl rfl
set_option maxRecDepth 20000 in
theorem gX9_goOn_X9_isSign : GoodIn wsX9_goOn (va_wsS RX9 202 yX9_isSign wsX9_isSign) := goodIn_app (goodIn_of _ (by decide +kernel)) ggX9_goOn_X9_isSign
theorem dX9_goOn_0 : decode cX9_goOn 0 = .ok (.aload_n 0, 1) := by decide +kernel
theorem dX9_goOn_1 : decode cX9_goOn 1 = .ok (.aload_n 0, 1) := by decide +kernel
theorem dX9_goOn_2 : decode cX9_goOn 2 = .ok (.getfield 171, 3) := by decide +kernel
theorem dX9_goOn_5 : decode cX9_goOn 5 = .ok (.putfield 174, 3) := by decide +kernel
theorem dX9_goOn_8 : decode cX9_goOn 8 = .ok (.aload_n 0, 1) := by decide +kernel
theorem dX9_goOn_9 : decode cX9_goOn 9 = .ok (.getfield 174, 3) := by decide +kernel
theorem dX9_goOn_12 : decode cX9_goOn 12 = .ok (.aload_n 0, 1) := by decide +kernel
theorem dX9_goOn_13 : decode cX9_goOn 13 = .ok (.getfield 137, 3) := by decide +kernel
theorem dX9_goOn_16 : decode cX9_goOn 16 = .ok (.if_icmp .ge 42, 3) := by decide +kernel
theorem dX9_goOn_19 : decode cX9_goOn 19 = .ok (.aload_n 0, 1) := by decide +kernel
theorem dX9_goOn_20 : decode cX9_goOn 20 = .ok (.aload_n 0, 1) := by decide +kernel
theorem dX9_goOn_21 : decode cX9_goOn 21 = .ok (.getfield 174, 3) := by decide +kernel
theorem dX9_goOn_24 : decode cX9_goOn 24 = .ok (.invokevirtual 177, 3) := by decide +kernel
theorem dX9_goOn_27 : decode cX9_goOn 27 = .ok (.bipush 32, 2) := by decide +kernel
theorem dX9_goOn_29 : decode cX9_goOn 29 = .ok (.if_icmp .eq 16, 3) := by decide +kernel
theorem dX9_goOn_32 : decode cX9_goOn 32 = .ok (.aload_n 0, 1) := by decide +kernel
theorem dX9_goOn_33 : decode cX9_goOn 33 = .ok (.aload_n 0, 1) := by decide +kernel
theorem dX9_goOn_34 : decode cX9_goOn 34 = .ok (.getfield 174, 3) := by decide +kernel
theorem dX9_goOn_37 : decode cX9_goOn 37 = .ok (.invokevirtual 177, 3) := by decide +kernel
theorem dX9_goOn_40 : decode cX9_goOn 40 = .ok (.bipush 10, 2) := by decide +kernel
theorem dX9_goOn_42 : decode cX9_goOn 42 = .ok (.if_icmp .ne 16, 3) := by decide +kernel
theorem dX9_goOn_45 : decode cX9_goOn 45 = .ok (.aload_n 0, 1) := by decide +kernel
theorem dX9_goOn_46 : decode cX9_goOn 46 = .ok (.dup, 1) := by decide +kernel
theorem dX9_goOn_47 : decode cX9_goOn 47 = .ok (.getfield 174, 3) := by decide +kernel
theorem dX9_goOn_50 : decode cX9_goOn 50 = .ok (.iconst 1, 1) := by decide +kernel
theorem dX9_goOn_51 : decode cX9_goOn 51 = .ok (.iadd, 1) := by decide +kernel
theorem dX9_goOn_52 : decode cX9_goOn 52 = .ok (.putfield 174, 3) := by decide +kernel
theorem dX9_goOn_55 : decode cX9_goOn 55 = .ok (.goto (-47), 3) := by decide +kernel
theorem dX9_goOn_58 : decode cX9_goOn 58 = .ok (.aload_n 0, 1) := by decide +kernel
theorem dX9_goOn_59 : decode cX9_goOn 59 = .ok (.aload_n 0, 1) := by decide +kernel
theorem dX9_goOn_60 : decode cX9_goOn 60 = .ok (.getfield 174, 3) := by decide +kernel
theorem dX9_goOn_63 : decode cX9_goOn 63 = .ok (.invokevirtual 177, 3) := by decide +kernel
theorem dX9_goOn_66 : decode cX9_goOn 66 = .ok (.istore_n 1, 1) := by decide +kernel
theorem dX9_goOn_67 : decode cX9_goOn 67 = .ok (.aload_n 0, 1) := by decide +kernel
theorem dX9_goOn_68 : decode cX9_goOn 68 = .ok (.aload_n 0, 1) := by decide +kernel
theorem dX9_goOn_69 : decode cX9_goOn 69 = .ok (.getfield 174, 3) := by decide +kernel
theorem dX9_goOn_72 : decode cX9_goOn 72 = .ok (.iconst 1, 1) := by decide +kernel
theorem dX9_goOn_73 : decode cX9_goOn 73 = .ok (.iadd, 1) := by decide +kernel
theorem dX9_goOn_74 : decode cX9_goOn 74 = .ok (.putfield 171, 3) := by decide +kernel
theorem dX9_goOn_77 : decode cX9_goOn 77 = .ok (.aload_n 0, 1) := by decide +kernel
theorem dX9_goOn_78 : decode cX9_goOn 78 = .ok (.getfield 174, 3) := by decide +kernel
theorem dX9_goOn_81 : decode cX9_goOn 81 = .ok (.aload_n 0, 1) := by decide +kernel
theorem dX9_goOn_82 : decode cX9_goOn 82 = .ok (.getfield 137, 3) := by decide +kernel
theorem dX9_goOn_85 : decode cX9_goOn 85 = .ok (.if_icmp .lt 27, 3) := by decide +kernel
theorem dX9_goOn_88 : decode cX9_goOn 88 = .ok (.aload_n 0, 1) := by decide +kernel
theorem dX9_goOn_89 : decode cX9_goOn 89 = .ok (.iconst 0, 1) := by decide +kernel
theorem dX9_goOn_90 : decode cX9_goOn 90 = .ok (.putfield 181, 3) := by decide +kernel
theorem dX9_goOn_93 : decode cX9_goOn 93 = .ok (.aload_n 0, 1) := by decide +kernel
theorem dX9_goOn_94 : decode cX9_goOn 94 = .ok (.aload_n 0, 1) := by decide +kernel
theorem dX9_goOn_95 : decode cX9_goOn 95 = .ok (.getfield 137, 3) := by decide +kernel
theorem dX9_goOn_98 : decode cX9_goOn 98 = .ok (.putfield 174, 3) := by decide +kernel
theorem dX9_goOn_101 : decode cX9_goOn 101 = .ok (.aload_n 0, 1) := by decide +kernel
theorem dX9_goOn_102 : decode cX9_goOn 102 = .ok (.aload_n 0, 1) := by decide +kernel
theorem dX9_goOn_103 : decode cX9_goOn 103 = .ok (.getfield 137, 3) := by decide +kernel
theorem dX9_goOn_106 : decode cX9_goOn 106 = .ok (.putfield 171, 3) := by decide +kernel
theorem dX9_goOn_109 : decode cX9_goOn 109 = .ok (.goto 268, 3) := by decide +kernel
theorem dX9_goOn_112 : decode cX9_goOn 112 = .ok (.iload_n 1, 1) := by decide +kernel
theorem dX9_goOn_113 : decode cX9_goOn 113 = .ok (.invokestatic 184, 3) := by decide +kernel
theorem dX9_goOn_116 : decode cX9_goOn 116 = .ok (.ifCond .eq 123, 3) := by decide +kernel
theorem dX9_goOn_119 : decode cX9_goOn 119 = .ok (.aload_n 0, 1) := by decide +kernel
theorem dX9_goOn_120 : decode cX9_goOn 120 = .ok (.aload_n 0, 1) := by decide +kernel
theorem dX9_goOn_121 : decode cX9_goOn 121 = .ok (.getfield 171, 3) := by decide +kernel
theorem dX9_goOn_124 : decode cX9_goOn 124 = .ok (.invokevirtual 177, 3) := by decide +kernel
theorem dX9_goOn_127 : decode cX9_goOn 127 = .ok (.invokestatic 184, 3) := by decide +kernel
theorem dX9_goOn_130 : decode cX9_goOn 130 = .ok (.ifCond .eq 16, 3) := by decide +kernel
theorem dX9_goOn_133 : decode cX9_goOn 133 = .ok (.aload_n 0, 1) := by decide +kernel
theorem dX9_goOn_134 : decode cX9_goOn 134 = .ok (.dup, 1) := by decide +kernel
theorem dX9_goOn_135 : decode cX9_goOn 135 = .ok (.getfield 171, 3) := by decide +kernel
theorem dX9_goOn_138 : decode cX9_goOn 138 = .ok (.iconst 1, 1) := by decide +kernel
theorem dX9_goOn_139 : decode cX9_goOn 139 = .ok (.iadd, 1) := by decide +kernel
theorem dX9_goOn_140 : decode cX9_goOn 140 = .ok (.putfield 171, 3) := by decide +kernel
theorem dX9_goOn_143 : decode cX9_goOn 143 = .ok (.goto (-24), 3) := by decide +kernel
theorem dX9_goOn_146 : decode cX9_goOn 146 = .ok (.aload_n 0, 1) := by decide +kernel
theorem dX9_goOn_147 : decode cX9_goOn 147 = .ok (.lconst 0, 1) := by decide +kernel
theorem dX9_goOn_148 : decode cX9_goOn 148 = .ok (.putfield 188, 3) := by decide +kernel
theorem dX9_goOn_151 : decode cX9_goOn 151 = .ok (.aload_n 0, 1) := by decide +kernel
theorem dX9_goOn_152 : decode cX9_goOn 152 = .ok (.getfield 174, 3) := by decide +kernel
theorem dX9_goOn_155 : decode cX9_goOn 155 = .ok (.istore_n 2, 1) := by decide +kernel
theorem dX9_goOn_156 : decode cX9_goOn 156 = .ok (.iload_n 2, 1) := by decide +kernel
theorem dX9_goOn_157 : decode cX9_goOn 157 = .ok (.aload_n 0, 1) := by decide +kernel
theorem dX9_goOn_158 : decode cX9_goOn 158 = .ok (.getfield 171, 3) := by decide +kernel
theorem dX9_goOn_161 : decode cX9_goOn 161 = .ok (.if_icmp .ge 38, 3) := by decide +kernel
theorem dX9_goOn_164 : decode cX9_goOn 164 = .ok (.iload_n 2, 1) := by decide +kernel
theorem dX9_goOn_165 : decode cX9_goOn 165 = .ok (.aload_n 0, 1) := by decide +kernel
theorem dX9_goOn_166 : decode cX9_goOn 166 = .ok (.getfield 174, 3) := by decide +kernel
theorem dX9_goOn_169 : decode cX9_goOn 169 = .ok (.bipush 8, 2) := by decide +kernel
theorem dX9_goOn_171 : decode cX9_goOn 171 = .ok (.iadd, 1) := by decide +kernel
theorem dX9_goOn_172 : decode cX9_goOn 172 = .ok (.if_icmp .ge 27, 3) := by decide +kernel
theorem dX9_goOn_175 : decode cX9_goOn 175 = .ok (.aload_n 0, 1) := by decide +kernel
theorem dX9_goOn_176 : decode cX9_goOn 176 = .ok (.aload_n 0, 1) := by decide +kernel
theorem dX9_goOn_177 : decode cX9_goOn 177 = .ok (.getfield 188, 3) := by decide +kernel
theorem dX9_goOn_180 : decode cX9_goOn 180 = .ok (.bipush 8, 2) := by decide +kernel
theorem dX9_goOn_182 : decode cX9_goOn 182 = .ok (.lshl, 1) := by decide +kernel
theorem dX9_goOn_183 : decode cX9_goOn 183 = .ok (.aload_n 0, 1) := by decide +kernel
theorem dX9_goOn_184 : decode cX9_goOn 184 = .ok (.iload_n 2, 1) := by decide +kernel
theorem dX9_goOn_185 : decode cX9_goOn 185 = .ok (.invokevirtual 177, 3) := by decide +kernel
theorem dX9_goOn_188 : decode cX9_goOn 188 = .ok (.i2l, 1) := by decide +kernel
theorem dX9_goOn_189 : decode cX9_goOn 189 = .ok (.lor, 1) := by decide +kernel
theorem dX9_goOn_190 : decode cX9_goOn 190 = .ok (.putfield 188, 3) := by decide +kernel
theorem dX9_goOn_193 : decode cX9_goOn 193 = .ok (.iinc 2 1, 3) := by decide +kernel
theorem dX9_goOn_196 : decode cX9_goOn 196 = .ok (.goto (-40), 3) := by decide +kernel
theorem dX9_goOn_199 : decode cX9_goOn 199 = .ok (.aload_n 0, 1) := by decide +kernel
theorem dX9_goOn_200 : decode cX9_goOn 200 = .ok (.aload_n 0, 1) := by decide +kernel
theorem dX9_goOn_201 : decode cX9_goOn 201 = .ok (.getfield 171, 3) := by decide +kernel
theorem dX9_goOn_204 : decode cX9_goOn 204 = .ok (.aload_n 0, 1) := by decide +kernel
theorem dX9_goOn_205 : decode cX9_goOn 205 = .ok (.getfield 174, 3) := by decide +kernel
theorem dX9_goOn_208 : decode cX9_goOn 208 = .ok (.isub, 1) := by decide +kernel
theorem dX9_goOn_209 : decode cX9_goOn 209 = .ok (.bipush 8, 2) := by decide +kernel
theorem dX9_goOn_211 : decode cX9_goOn 211 = .ok (.if_icmp .le 7, 3) := by decide +kernel
theorem dX9_goOn_214 : decode cX9_goOn 214 = .ok (.iconst 1, 1) := by decide +kernel
theorem dX9_goOn_215 : decode cX9_goOn 215 = .ok (.goto 18, 3) := by decide +kernel
theorem dX9_goOn_218 : decode cX9_goOn 218 = .ok (.aload_n 0, 1) := by decide +kernel
theorem dX9_goOn_219 : decode cX9_goOn 219 = .ok (.getfield 188, 3) := by decide +kernel
theorem dX9_goOn_222 : decode cX9_goOn 222 = .ok (.invokestatic 192, 3) := by decide +kernel
theorem dX9_goOn_225 : decode cX9_goOn 225 = .ok (.ifCond .eq 7, 3) := by decide +kernel
theorem dX9_goOn_228 : decode cX9_goOn 228 = .ok (.iconst 3, 1) := by decide +kernel
theorem dX9_goOn_229 : decode cX9_goOn 229 = .ok (.goto 4, 3) := by decide +kernel
theorem dX9_goOn_232 : decode cX9_goOn 232 = .ok (.iconst 2, 1) := by decide +kernel
theorem dX9_goOn_233 : decode cX9_goOn 233 = .ok (.putfield 181, 3) := by decide +kernel
theorem dX9_goOn_236 : decode cX9_goOn 236 = .ok (.goto 141, 3) := by decide +kernel
theorem dX9_goOn_239 : decode cX9_goOn 239 = .ok (.iload_n 1, 1) := by decide +kernel
theorem dX9_goOn_240 : decode cX9_goOn 240 = .ok (.invokestatic 196, 3) := by decide +kernel
theorem dX9_goOn_243 : decode cX9_goOn 243 = .ok (.ifCond .eq 118, 3) := by decide +kernel
theorem dX9_goOn_246 : decode cX9_goOn 246 = .ok (.aload_n 0, 1) := by decide +kernel
theorem dX9_goOn_247 : decode cX9_goOn 247 = .ok (.iconst 0, 1) := by decide +kernel
theorem dX9_goOn_248 : decode cX9_goOn 248 = .ok (.putfield 199, 3) := by decide +kernel
theorem dX9_goOn_251 : decode cX9_goOn 251 = .ok (.aload_n 0, 1) := by decide +kernel
theorem dX9_goOn_252 : decode cX9_goOn 252 = .ok (.aload_n 0, 1) := by decide +kernel
theorem dX9_goOn_253 : decode cX9_goOn 253 = .ok (.getfield 174, 3) := by decide +kernel
theorem dX9_goOn_256 : decode cX9_goOn 256 = .ok (.putfield 171, 3) := by decide +kernel
theorem dX9_goOn_259 : decode cX9_goOn 259 = .ok (.aload_n 0, 1) := by decide +kernel
theorem dX9_goOn_260 : decode cX9_goOn 260 = .ok (.aload_n 0, 1) := by decide +kernel
theorem dX9_goOn_261 : decode cX9_goOn 261 = .ok (.getfield 171, 3) := by decide +kernel
theorem dX9_goOn_264 : decode cX9_goOn 264 = .ok (.invokevirtual 177, 3) := by decide +kernel
theorem dX9_goOn_267 : decode cX9_goOn 267 = .ok (.invokestatic 196, 3) := by decide +kernel
theorem dX9_goOn_270 : decode cX9_goOn 270 = .ok (.ifCond .eq 52, 3) := by decide +kernel
theorem dX9_goOn_273 : decode cX9_goOn 273 = .ok (.aload_n 0, 1) := by decide +kernel
theorem dX9_goOn_274 : decode cX9_goOn 274 = .ok (.getfield 171, 3) := by decide +kernel
theorem dX9_goOn_277 : decode cX9_goOn 277 = .ok (.aload_n 0, 1) := by decide +kernel
theorem dX9_goOn_278 : decode cX9_goOn 278 = .ok (.getfield 174, 3) := by decide +kernel
theorem dX9_goOn_281 : decode cX9_goOn 281 = .ok (.isub, 1) := by decide +kernel
theorem dX9_goOn_282 : decode cX9_goOn 282 = .ok (.iconst 4, 1) := by decide +kernel
theorem dX9_goOn_283 : decode cX9_goOn 283 = .ok (.if_icmp .ge 26, 3) := by decide +kernel
theorem dX9_goOn_286 : decode cX9_goOn 286 = .ok (.aload_n 0, 1) := by decide +kernel
theorem dX9_goOn_287 : decode cX9_goOn 287 = .ok (.bipush 10, 2) := by decide +kernel
theorem dX9_goOn_289 : decode cX9_goOn 289 = .ok (.aload_n 0, 1) := by decide +kernel
theorem dX9_goOn_290 : decode cX9_goOn 290 = .ok (.getfield 199, 3) := by decide +kernel
theorem dX9_goOn_293 : decode cX9_goOn 293 = .ok (.imul, 1) := by decide +kernel
theorem dX9_goOn_294 : decode cX9_goOn 294 = .ok (.aload_n 0, 1) := by decide +kernel
theorem dX9_goOn_295 : decode cX9_goOn 295 = .ok (.aload_n 0, 1) := by decide +kernel
theorem dX9_goOn_296 : decode cX9_goOn 296 = .ok (.getfield 171, 3) := by decide +kernel
theorem dX9_goOn_299 : decode cX9_goOn 299 = .ok (.invokevirtual 177, 3) := by decide +kernel
theorem dX9_goOn_302 : decode cX9_goOn 302 = .ok (.iadd, 1) := by decide +kernel
theorem dX9_goOn_303 : decode cX9_goOn 303 = .ok (.bipush 48, 2) := by decide +kernel
theorem dX9_goOn_305 : decode cX9_goOn 305 = .ok (.isub, 1) := by decide +kernel
theorem dX9_goOn_306 : decode cX9_goOn 306 = .ok (.putfield 199, 3) := by decide +kernel
theorem dX9_goOn_309 : decode cX9_goOn 309 = .ok (.aload_n 0, 1) := by decide +kernel
theorem dX9_goOn_310 : decode cX9_goOn 310 = .ok (.dup, 1) := by decide +kernel
theorem dX9_goOn_311 : decode cX9_goOn 311 = .ok (.getfield 171, 3) := by decide +kernel
theorem dX9_goOn_314 : decode cX9_goOn 314 = .ok (.iconst 1, 1) := by decide +kernel
theorem dX9_goOn_315 : decode cX9_goOn 315 = .ok (.iadd, 1) := by decide +kernel
theorem dX9_goOn_316 : decode cX9_goOn 316 = .ok (.putfield 171, 3) := by decide +kernel
theorem dX9_goOn_319 : decode cX9_goOn 319 = .ok (.goto (-60), 3) := by decide +kernel
theorem dX9_goOn_322 : decode cX9_goOn 322 = .ok (.aload_n 0, 1) := by decide +kernel
theorem dX9_goOn_323 : decode cX9_goOn 323 = .ok (.aload_n 0, 1) := by decide +kernel
theorem dX9_goOn_324 : decode cX9_goOn 324 = .ok (.getfield 171, 3) := by decide +kernel
theorem dX9_goOn_327 : decode cX9_goOn 327 = .ok (.aload_n 0, 1) := by decide +kernel
theorem dX9_goOn_328 : decode cX9_goOn 328 = .ok (.getfield 174, 3) := by decide +kernel
theorem dX9_goOn_331 : decode cX9_goOn 331 = .ok (.isub, 1) := by decide +kernel
theorem dX9_goOn_332 : decode cX9_goOn 332 = .ok (.iconst 4, 1) := by decide +kernel
theorem dX9_goOn_333 : decode cX9_goOn 333 = .ok (.if_icmp .gt 17, 3) := by decide +kernel
theorem dX9_goOn_336 : decode cX9_goOn 336 = .ok (.aload_n 0, 1) := by decide +kernel
theorem dX9_goOn_337 : decode cX9_goOn 337 = .ok (.aload_n 0, 1) := by decide +kernel
theorem dX9_goOn_338 : decode cX9_goOn 338 = .ok (.getfield 171, 3) := by decide +kernel
theorem dX9_goOn_341 : decode cX9_goOn 341 = .ok (.invokevirtual 177, 3) := by decide +kernel
theorem dX9_goOn_344 : decode cX9_goOn 344 = .ok (.invokestatic 184, 3) := by decide +kernel
theorem dX9_goOn_347 : decode cX9_goOn 347 = .ok (.ifCond .eq 7, 3) := by decide +kernel
theorem dX9_goOn_350 : decode cX9_goOn 350 = .ok (.iconst 1, 1) := by decide +kernel
theorem dX9_goOn_351 : decode cX9_goOn 351 = .ok (.goto 4, 3) := by decide +kernel
theorem dX9_goOn_354 : decode cX9_goOn 354 = .ok (.iconst 4, 1) := by decide +kernel
theorem dX9_goOn_355 : decode cX9_goOn 355 = .ok (.putfield 181, 3) := by decide +kernel
theorem dX9_goOn_358 : decode cX9_goOn 358 = .ok (.goto 19, 3) := by decide +kernel
theorem dX9_goOn_361 : decode cX9_goOn 361 = .ok (.aload_n 0, 1) := by decide +kernel
theorem dX9_goOn_362 : decode cX9_goOn 362 = .ok (.iload_n 1, 1) := by decide +kernel
theorem dX9_goOn_363 : decode cX9_goOn 363 = .ok (.invokestatic 202, 3) := by decide +kernel
theorem dX9_goOn_366 : decode cX9_goOn 366 = .ok (.ifCond .eq 7, 3) := by decide +kernel
theorem dX9_goOn_369 : decode cX9_goOn 369 = .ok (.iconst 5, 1) := by decide +kernel
theorem dX9_goOn_370 : decode cX9_goOn 370 = .ok (.goto 4, 3) := by decide +kernel
theorem dX9_goOn_373 : decode cX9_goOn 373 = .ok (.iconst 1, 1) := by decide +kernel
theorem dX9_goOn_374 : decode cX9_goOn 374 = .ok (.putfield 181, 3) := by decide +kernel
theorem dX9_goOn_377 : decode cX9_goOn 377 = .ok (.return_, 1) := by decide +kernel
theorem dX9_clearBank_0 : decode cX9_clearBank 0 = .ok (.aload_n 0, 1) := by decide +kernel
theorem dX9_clearBank_1 : decode cX9_clearBank 1 = .ok (.getfield 20, 3) := by decide +kernel
theorem dX9_clearBank_4 : decode cX9_clearBank 4 = .ok (.aload_n 0, 1) := by decide +kernel
theorem dX9_clearBank_5 : decode cX9_clearBank 5 = .ok (.getfield 230, 3) := by decide +kernel
theorem dX9_clearBank_8 : decode cX9_clearBank 8 = .ok (.iconst 0, 1) := by decide +kernel
theorem dX9_clearBank_9 : decode cX9_clearBank 9 = .ok (.iastore, 1) := by decide +kernel
theorem dX9_clearBank_10 : decode cX9_clearBank 10 = .ok (.aload_n 0, 1) := by decide +kernel
theorem dX9_clearBank_11 : decode cX9_clearBank 11 = .ok (.getfield 24, 3) := by decide +kernel
theorem dX9_clearBank_14 : decode cX9_clearBank 14 = .ok (.aload_n 0, 1) := by decide +kernel
theorem dX9_clearBank_15 : decode cX9_clearBank 15 = .ok (.getfield 230, 3) := by decide +kernel
theorem dX9_clearBank_18 : decode cX9_clearBank 18 = .ok (.iconst 0, 1) := by decide +kernel
theorem dX9_clearBank_19 : decode cX9_clearBank 19 = .ok (.iastore, 1) := by decide +kernel
theorem dX9_clearBank_20 : decode cX9_clearBank 20 = .ok (.aload_n 0, 1) := by decide +kernel
theorem dX9_clearBank_21 : decode cX9_clearBank 21 = .ok (.getfield 27, 3) := by decide +kernel
theorem dX9_clearBank_24 : decode cX9_clearBank 24 = .ok (.aload_n 0, 1) := by decide +kernel
theorem dX9_clearBank_25 : decode cX9_clearBank 25 = .ok (.getfield 230, 3) := by decide +kernel
theorem dX9_clearBank_28 : decode cX9_clearBank 28 = .ok (.iconst 0, 1) := by decide +kernel
theorem dX9_clearBank_29 : decode cX9_clearBank 29 = .ok (.iastore, 1) := by decide +kernel
theorem dX9_clearBank_30 : decode cX9_clearBank 30 = .ok (.aload_n 0, 1) := by decide +kernel
theorem dX9_clearBank_31 : decode cX9_clearBank 31 = .ok (.getfield 30, 3) := by decide +kernel
theorem dX9_clearBank_34 : decode cX9_clearBank 34 = .ok (.aload_n 0, 1) := by decide +kernel
theorem dX9_clearBank_35 : decode cX9_clearBank 35 = .ok (.getfield 230, 3) := by decide +kernel
theorem dX9_clearBank_38 : decode cX9_clearBank 38 = .ok (.iconst 0, 1) := by decide +kernel
theorem dX9_clearBank_39 : decode cX9_clearBank 39 = .ok (.iastore, 1) := by decide +kernel
theorem dX9_clearBank_40 : decode cX9_clearBank 40 = .ok (.aload_n 0, 1) := by decide +kernel
theorem dX9_clearBank_41 : decode cX9_clearBank 41 = .ok (.getfield 33, 3) := by decide +kernel
theorem dX9_clearBank_44 : decode cX9_clearBank 44 = .ok (.aload_n 0, 1) := by decide +kernel
theorem dX9_clearBank_45 : decode cX9_clearBank 45 = .ok (.getfield 230, 3) := by decide +kernel
theorem dX9_clearBank_48 : decode cX9_clearBank 48 = .ok (.iconst 0, 1) := by decide +kernel
theorem dX9_clearBank_49 : decode cX9_clearBank 49 = .ok (.iastore, 1) := by decide +kernel
theorem dX9_clearBank_50 : decode cX9_clearBank 50 = .ok (.aload_n 0, 1) := by decide +kernel
theorem dX9_clearBank_51 : decode cX9_clearBank 51 = .ok (.getfield 36, 3) := by decide +kernel
theorem dX9_clearBank_54 : decode cX9_clearBank 54 = .ok (.aload_n 0, 1) := by decide +kernel
theorem dX9_clearBank_55 : decode cX9_clearBank 55 = .ok (.getfield 230, 3) := by decide +kernel
theorem dX9_clearBank_58 : decode cX9_clearBank 58 = .ok (.iconst 0, 1) := by decide +kernel
theorem dX9_clearBank_59 : decode cX9_clearBank 59 = .ok (.iastore, 1) := by decide +kernel
theorem dX9_clearBank_60 : decode cX9_clearBank 60 = .ok (.aload_n 0, 1) := by decide +kernel
theorem dX9_clearBank_61 : decode cX9_clearBank 61 = .ok (.sipush 560, 3) := by decide +kernel
theorem dX9_clearBank_64 : decode cX9_clearBank 64 = .ok (.aload_n 0, 1) := by decide +kernel
theorem dX9_clearBank_65 : decode cX9_clearBank 65 = .ok (.getfield 230, 3) := by decide +kernel
theorem dX9_clearBank_68 : decode cX9_clearBank 68 = .ok (.imul, 1) := by decide +kernel
theorem dX9_clearBank_69 : decode cX9_clearBank 69 = .ok (.putfield 233, 3) := by decide +kernel
theorem dX9_clearBank_72 : decode cX9_clearBank 72 = .ok (.return_, 1) := by decide +kernel
theorem dX9_feed_0 : decode cX9_feed 0 = .ok (.aload_n 0, 1) := by decide +kernel
theorem dX9_feed_1 : decode cX9_feed 1 = .ok (.getfield 236, 3) := by decide +kernel
theorem dX9_feed_4 : decode cX9_feed 4 = .ok (.bipush 20, 2) := by decide +kernel
theorem dX9_feed_6 : decode cX9_feed 6 = .ok (.iadd, 1) := by decide +kernel
theorem dX9_feed_7 : decode cX9_feed 7 = .ok (.sipush 1600, 3) := by decide +kernel
theorem dX9_feed_10 : decode cX9_feed 10 = .ok (.if_icmp .le 5, 3) := by decide +kernel
theorem dX9_feed_13 : decode cX9_feed 13 = .ok (.iconst (-1), 1) := by decide +kernel
theorem dX9_feed_14 : decode cX9_feed 14 = .ok (.ireturn, 1) := by decide +kernel
theorem dX9_feed_15 : decode cX9_feed 15 = .ok (.iconst 0, 1) := by decide +kernel
theorem dX9_feed_16 : decode cX9_feed 16 = .ok (.istore 6, 2) := by decide +kernel
theorem dX9_feed_18 : decode cX9_feed 18 = .ok (.iload 6, 2) := by decide +kernel
theorem dX9_feed_20 : decode cX9_feed 20 = .ok (.bipush 20, 2) := by decide +kernel
theorem dX9_feed_22 : decode cX9_feed 22 = .ok (.if_icmp .ge 83, 3) := by decide +kernel
theorem dX9_feed_25 : decode cX9_feed 25 = .ok (.iload 6, 2) := by decide +kernel
theorem dX9_feed_27 : decode cX9_feed 27 = .ok (.iconst 4, 1) := by decide +kernel
theorem dX9_feed_28 : decode cX9_feed 28 = .ok (.if_icmp .ge 7, 3) := by decide +kernel
theorem dX9_feed_31 : decode cX9_feed 31 = .ok (.iload_n 1, 1) := by decide +kernel
theorem dX9_feed_32 : decode cX9_feed 32 = .ok (.goto 39, 3) := by decide +kernel
theorem dX9_feed_35 : decode cX9_feed 35 = .ok (.iload 6, 2) := by decide +kernel
theorem dX9_feed_37 : decode cX9_feed 37 = .ok (.bipush 8, 2) := by decide +kernel
theorem dX9_feed_39 : decode cX9_feed 39 = .ok (.if_icmp .ge 7, 3) := by decide +kernel
theorem dX9_feed_42 : decode cX9_feed 42 = .ok (.iload_n 2, 1) := by decide +kernel
theorem dX9_feed_43 : decode cX9_feed 43 = .ok (.goto 28, 3) := by decide +kernel
theorem dX9_feed_46 : decode cX9_feed 46 = .ok (.iload 6, 2) := by decide +kernel
theorem dX9_feed_48 : decode cX9_feed 48 = .ok (.bipush 12, 2) := by decide +kernel
theorem dX9_feed_50 : decode cX9_feed 50 = .ok (.if_icmp .ge 7, 3) := by decide +kernel
theorem dX9_feed_53 : decode cX9_feed 53 = .ok (.iload_n 3, 1) := by decide +kernel
theorem dX9_feed_54 : decode cX9_feed 54 = .ok (.goto 17, 3) := by decide +kernel
theorem dX9_feed_57 : decode cX9_feed 57 = .ok (.iload 6, 2) := by decide +kernel
theorem dX9_feed_59 : decode cX9_feed 59 = .ok (.bipush 16, 2) := by decide +kernel
theorem dX9_feed_61 : decode cX9_feed 61 = .ok (.if_icmp .ge 8, 3) := by decide +kernel
theorem dX9_feed_64 : decode cX9_feed 64 = .ok (.iload 4, 2) := by decide +kernel
theorem dX9_feed_66 : decode cX9_feed 66 = .ok (.goto 5, 3) := by decide +kernel
theorem dX9_feed_69 : decode cX9_feed 69 = .ok (.iload 5, 2) := by decide +kernel
theorem dX9_feed_71 : decode cX9_feed 71 = .ok (.istore 7, 2) := by decide +kernel
theorem dX9_feed_73 : decode cX9_feed 73 = .ok (.aload_n 0, 1) := by decide +kernel
theorem dX9_feed_74 : decode cX9_feed 74 = .ok (.getfield 7, 3) := by decide +kernel
theorem dX9_feed_77 : decode cX9_feed 77 = .ok (.aload_n 0, 1) := by decide +kernel
theorem dX9_feed_78 : decode cX9_feed 78 = .ok (.getfield 236, 3) := by decide +kernel
theorem dX9_feed_81 : decode cX9_feed 81 = .ok (.iload 6, 2) := by decide +kernel
theorem dX9_feed_83 : decode cX9_feed 83 = .ok (.iadd, 1) := by decide +kernel
theorem dX9_feed_84 : decode cX9_feed 84 = .ok (.iload 7, 2) := by decide +kernel
theorem dX9_feed_86 : decode cX9_feed 86 = .ok (.bipush 24, 2) := by decide +kernel
theorem dX9_feed_88 : decode cX9_feed 88 = .ok (.bipush 8, 2) := by decide +kernel
theorem dX9_feed_90 : decode cX9_feed 90 = .ok (.iload 6, 2) := by decide +kernel
theorem dX9_feed_92 : decode cX9_feed 92 = .ok (.iconst 3, 1) := by decide +kernel
theorem dX9_feed_93 : decode cX9_feed 93 = .ok (.iand, 1) := by decide +kernel
theorem dX9_feed_94 : decode cX9_feed 94 = .ok (.imul, 1) := by decide +kernel
theorem dX9_feed_95 : decode cX9_feed 95 = .ok (.isub, 1) := by decide +kernel
theorem dX9_feed_96 : decode cX9_feed 96 = .ok (.ishr, 1) := by decide +kernel
theorem dX9_feed_97 : decode cX9_feed 97 = .ok (.i2b, 1) := by decide +kernel
theorem dX9_feed_98 : decode cX9_feed 98 = .ok (.bastore, 1) := by decide +kernel
theorem dX9_feed_99 : decode cX9_feed 99 = .ok (.iinc 6 1, 3) := by decide +kernel
theorem dX9_feed_102 : decode cX9_feed 102 = .ok (.goto (-84), 3) := by decide +kernel
theorem dX9_feed_105 : decode cX9_feed 105 = .ok (.aload_n 0, 1) := by decide +kernel
theorem dX9_feed_106 : decode cX9_feed 106 = .ok (.dup, 1) := by decide +kernel
theorem dX9_feed_107 : decode cX9_feed 107 = .ok (.getfield 236, 3) := by decide +kernel
theorem dX9_feed_110 : decode cX9_feed 110 = .ok (.bipush 20, 2) := by decide +kernel
theorem dX9_feed_112 : decode cX9_feed 112 = .ok (.iadd, 1) := by decide +kernel
theorem dX9_feed_113 : decode cX9_feed 113 = .ok (.putfield 236, 3) := by decide +kernel
theorem dX9_feed_116 : decode cX9_feed 116 = .ok (.aload_n 0, 1) := by decide +kernel
theorem dX9_feed_117 : decode cX9_feed 117 = .ok (.getfield 236, 3) := by decide +kernel
theorem dX9_feed_120 : decode cX9_feed 120 = .ok (.ireturn, 1) := by decide +kernel
theorem dX9_end_0 : decode cX9_end 0 = .ok (.iload_n 1, 1) := by decide +kernel
theorem dX9_end_1 : decode cX9_end 1 = .ok (.ifCond .lt 11, 3) := by decide +kernel
theorem dX9_end_4 : decode cX9_end 4 = .ok (.iload_n 1, 1) := by decide +kernel
theorem dX9_end_5 : decode cX9_end 5 = .ok (.aload_n 0, 1) := by decide +kernel
theorem dX9_end_6 : decode cX9_end 6 = .ok (.getfield 236, 3) := by decide +kernel
theorem dX9_end_9 : decode cX9_end 9 = .ok (.if_icmp .le 5, 3) := by decide +kernel
theorem dX9_end_12 : decode cX9_end 12 = .ok (.iconst (-1), 1) := by decide +kernel
theorem dX9_end_13 : decode cX9_end 13 = .ok (.ireturn, 1) := by decide +kernel
theorem dX9_end_14 : decode cX9_end 14 = .ok (.aload_n 0, 1) := by decide +kernel
theorem dX9_end_15 : decode cX9_end 15 = .ok (.iload_n 1, 1) := by decide +kernel
theorem dX9_end_16 : decode cX9_end 16 = .ok (.putfield 236, 3) := by decide +kernel
theorem dX9_end_19 : decode cX9_end 19 = .ok (.iload_n 1, 1) := by decide +kernel
theorem dX9_end_20 : decode cX9_end 20 = .ok (.ireturn, 1) := by decide +kernel
theorem in_X9_feed_X9 : ∀ w ∈ wsX90, w ∈ wsX9_feed := fun _ h => List.mem_cons_of_mem _ (List.mem_append_right _ h)
theorem in_X9_end_X9 : ∀ w ∈ wsX90, w ∈ wsX9_end := fun _ h => List.mem_cons_of_mem _ (List.mem_append_right _ h)
theorem in_X9_clearBank_X9 : ∀ w ∈ wsX90, w ∈ wsX9_clearBank := fun _ h => List.mem_cons_of_mem _ (List.mem_append_right _ h)
theorem in_X9_sign_X9 : ∀ w ∈ wsX90, w ∈ wsX9_sign := fun _ h => List.mem_cons_of_mem _ (List.mem_append_right _ h)
theorem in_X9_goOn_X9 : ∀ w ∈ wsX90, w ∈ wsX9_goOn := fun _ h => List.mem_cons_of_mem _ (List.mem_append_right _ h)
set_option maxHeartbeats 4000000 in
set_option maxRecDepth 100000 in
theorem s_X9_feed_0 (l : Launch) (B0 : Nat) (adK adV : Nat → Nat) (D : va_G) (cy : Nat → ClassId) (ad : Nat → Nat) (fr0 : Nat → va_E) (c_text : Nat → Int32) (m_taped : Int32) (m_size : Int32) (m_faultKind : Int32) (m_faultPlace : Int32) (m_at : Int32) (m_end : Int32) (m_token : Int32) (m_number : Int32) (m_name : Int64) (c_points : Nat → Int32) (c_strands : Nat → Int32) (c_units : Nat → Int32) (c_told : Nat → Int32) (c_ruleFrom : Nat → Int32) (c_ruleTo : Nat → Int32) (c_code : Nat → Int32) (c_eWhat : Nat → Int32) (c_eSign : Nat → Int32) (m_bank : Int32) (m_rb : Int32) (m_codes : Int32) (m_within : Int32) (m_piled : Int32) (m_unitsInRule : Int32) (m_askStrand : Int32) (m_askTied : Int32) (m_thoughtClaim : Int32) (m_thoughtNeed : Int32) (m_thoughtAll : Int32) (c_roundOf : Nat → Int32) (m_acts : Int32) (m_undone : Int32) (m_laid : Int32) (m_firstMove : Int32) (m_seens : Int32) (m_time : Int32) (m_waysNow : Int32) (m_fitting : Int32) (f : Nat → va_E) (hT : TYm ad cy fr0 c_text m_taped m_size m_faultKind m_faultPlace m_at m_end m_token m_number m_name c_points c_strands c_units c_told c_ruleFrom c_ruleTo c_code c_eWhat c_eSign m_bank m_rb m_codes m_within m_piled m_unitsInRule m_askStrand m_askTied m_thoughtClaim m_thoughtNeed m_thoughtAll c_roundOf m_acts m_undone m_laid m_firstMove m_seens m_time m_waysNow m_fitting f) (p1 : Int32) (p2 : Int32) (p3 : Int32) (p4 : Int32) (p5 : Int32) (sz : Nat) : TtI l yX9_feed wsX9_feed 0 0 [.ref (ad 148), .int p1, .int p2, .int p3, .int p4, .int p5] B0 adK adV D cy ad f sz (fun (r : Int32) (g : Nat → va_E) => (-1 ≤ r.toInt ∧ r.toInt ≤ 1600) ∧ (∃ (m_taped' : Int32), TYm ad cy fr0 c_text m_taped' m_size m_faultKind m_faultPlace m_at m_end m_token m_number m_name c_points c_strands c_units c_told c_ruleFrom c_ruleTo c_code c_eWhat c_eSign m_bank m_rb m_codes m_within m_piled m_unitsInRule m_askStrand m_askTied m_thoughtClaim m_thoughtNeed m_thoughtAll c_roundOf m_acts m_undone m_laid m_firstMove m_seens m_time m_waysNow m_fitting g ∧ (20 ≤ m_taped'.toInt ∧ m_taped'.toInt ≤ 1600))) := by
  refine TtI.of (cc := cX9_feed) (maxL := 8) (ty := .int) (own := RX9) (by decide) rfl (Nat.le_of_ble_eq_true rfl) rfl ?_
  intro p e s m below meth c A ls hx hb hr hml hts hown hlk hK hE hP hD hS hA hAB hl
  have hl : lv_has ls 8 [(0, .ref (ad 148)), (1, .int p1), (2, .int p2), (3, .int p3), (4, .int p4), (5, .int p5)] := hl
  refine st0 (fun H locs hP hS => ?_) hP hS
  have j18 : ∀ (N : Nat) (f : Nat → va_E) (H : Heap) (locs : List Loc) (ls : Array Slot) (v18_l6 : Int32), (21 - v18_l6.toInt ≤ (N : Int)) → (0 ≤ v18_l6.toInt ∧ v18_l6.toInt ≤ 20) → (0 ≤ m_taped.toInt ∧ m_taped.toInt ≤ 1580) → (TYm ad cy fr0 c_text m_taped m_size m_faultKind m_faultPlace m_at m_end m_token m_number m_name c_points c_strands c_units c_told c_ruleFrom c_ruleTo c_code c_eWhat c_eSign m_bank m_rb m_codes m_within m_piled m_unitsInRule m_askStrand m_askTied m_thoughtClaim m_thoughtNeed m_thoughtAll c_roundOf m_acts m_undone m_laid m_firstMove m_seens m_time m_waysNow m_fitting f) → (va_P D vwCl (wl ad f) H) → (va_D A (wl ad f)) → (va_S A s.heap H locs) → (lv_has ls 8 [(6, .int v18_l6), (0, .ref (ad 148)), (1, .int p1), (2, .int p2), (3, .int p3), (4, .int p4), (5, .int p5)]) → W p l e (rmO 0 0 0 0) s m ([.ref (ad 148), .int p1, .int p2, .int p3, .int p4, .int p5] : List Value).toArray below meth c H locs 0 0 (MQ below (va_Qi (fun (r : Int32) (g : Nat → va_E) => (-1 ≤ r.toInt ∧ r.toInt ≤ 1600) ∧ (∃ (m_taped' : Int32), TYm ad cy fr0 c_text m_taped' m_size m_faultKind m_faultPlace m_at m_end m_token m_number m_name c_points c_strands c_units c_told c_ruleFrom c_ruleTo c_code c_eWhat c_eSign m_bank m_rb m_codes m_within m_piled m_unitsInRule m_askStrand m_askTied m_thoughtClaim m_thoughtNeed m_thoughtAll c_roundOf m_acts m_undone m_laid m_firstMove m_seens m_time m_waysNow m_fitting g ∧ (20 ≤ m_taped'.toInt ∧ m_taped'.toInt ≤ 1600))) (fun g t => PstT D ad g t) A) ([.ref (ad 148), .int p1, .int p2, .int p3, .int p4, .int p5] : List Value).toArray s 0 0 A) (F0 m 18 ls []) := by
    intro N
    induction N with
    | zero => intro f H locs ls v18_l6 hN hv18_l6 hv18_p_m_taped hT hP hD hS hl; exact absurd hN (by omega)
    | succ N ih18 =>
      intro f H locs ls v18_l6 hN hv18_l6 hv18_p_m_taped hT hP hD hS hl
      have j71 : ∀ (f : Nat → va_E) (H : Heap) (locs : List Loc) (ls : Array Slot) (v71_s0 : Int32), (0 ≤ v18_l6.toInt ∧ v18_l6.toInt ≤ 19) → (0 ≤ m_taped.toInt ∧ m_taped.toInt ≤ 1580) → (TYm ad cy fr0 c_text m_taped m_size m_faultKind m_faultPlace m_at m_end m_token m_number m_name c_points c_strands c_units c_told c_ruleFrom c_ruleTo c_code c_eWhat c_eSign m_bank m_rb m_codes m_within m_piled m_unitsInRule m_askStrand m_askTied m_thoughtClaim m_thoughtNeed m_thoughtAll c_roundOf m_acts m_undone m_laid m_firstMove m_seens m_time m_waysNow m_fitting f) → (va_P D vwCl (wl ad f) H) → (va_D A (wl ad f)) → (va_S A s.heap H locs) → (lv_has ls 8 [(6, .int v18_l6), (0, .ref (ad 148)), (1, .int p1), (2, .int p2), (3, .int p3), (4, .int p4), (5, .int p5)]) → W p l e (rmO 0 0 0 0) s m ([.ref (ad 148), .int p1, .int p2, .int p3, .int p4, .int p5] : List Value).toArray below meth c H locs 0 0 (MQ below (va_Qi (fun (r : Int32) (g : Nat → va_E) => (-1 ≤ r.toInt ∧ r.toInt ≤ 1600) ∧ (∃ (m_taped' : Int32), TYm ad cy fr0 c_text m_taped' m_size m_faultKind m_faultPlace m_at m_end m_token m_number m_name c_points c_strands c_units c_told c_ruleFrom c_ruleTo c_code c_eWhat c_eSign m_bank m_rb m_codes m_within m_piled m_unitsInRule m_askStrand m_askTied m_thoughtClaim m_thoughtNeed m_thoughtAll c_roundOf m_acts m_undone m_laid m_firstMove m_seens m_time m_waysNow m_fitting g ∧ (20 ≤ m_taped'.toInt ∧ m_taped'.toInt ≤ 1600))) (fun g t => PstT D ad g t) A) ([.ref (ad 148), .int p1, .int p2, .int p3, .int p4, .int p5] : List Value).toArray s 0 0 A) (F0 m 71 ls [.int v71_s0]) := by
        intro f H locs ls v71_s0 hv71_l6 hv71_p_m_taped hT hP hD hS hl
        refine lv_istore (lv' := [(7, .int v71_s0), (6, .int v18_l6), (0, .ref (ad 148)), (1, .int p1), (2, .int p2), (3, .int p3), (4, .int p4), (5, .int p5)]) hx hb dX9_feed_71 hl (by decide) rfl (fun ls hl => ?_)
        refine lv_aload_n hx hb dX9_feed_73 rfl (lv_at hl 2 rfl) ?_
        obtain ⟨e16, h1, h2, h3, h4, h5, h6, h7, h8, h9, h10, h11, h12, h13, h14, h15⟩ := (show okX9 ad m_taped m_size m_faultKind m_faultPlace m_at m_end m_token m_number m_name m_bank m_rb m_codes m_within m_piled m_unitsInRule m_askStrand m_askTied m_thoughtClaim m_thoughtNeed m_thoughtAll m_acts m_undone m_laid m_firstMove m_seens m_time m_waysNow m_fitting 148 (f 148) from hT.1 148 (by decide))
        refine va_get (D := D) (cl := vwCl) (ci := 9) (v := .ref (ad 149)) (C := RX9) (T := TX9) (N := 64) hx hb hts in_X9_feed_X9 hown hK hP 148 (wl_at (by decide) e16) rfl 0 (by decide) (hts (.fieldLink RX9 7 "EightReasonsModel" "tape" "[B") (List.mem_of_getElem? (i := 2) rfl)) (fun _ h9 => h9) rfl dX9_feed_74 ?_
        refine lv_aload_n hx hb dX9_feed_77 rfl (lv_at hl 2 rfl) ?_
        refine va_get (D := D) (cl := vwCl) (ci := 9) (v := .int m_taped) (C := RX9) (T := TX9) (N := 64) hx hb hts in_X9_feed_X9 hown hK hP 148 (wl_at (by decide) e16) rfl 2 (by decide) (hts (.fieldLink RX9 236 "EightReasonsModel" "taped" "I") (List.mem_of_getElem? (i := 1) rfl)) (fun _ h9 => h9) rfl dX9_feed_78 ?_
        refine lv_iload hx hb dX9_feed_81 (lv_at hl 1 rfl) ?_
        refine lv_iadd hx hb dX9_feed_83 ?_
        refine lv_topi (fun x17 ex17 => ?_)
        have hx17 := r_add ex17 (by omega) (by omega)
        refine lv_iload hx hb dX9_feed_84 (lv_at hl 0 rfl) ?_
        refine lv_bipush (v := 24) hx hb dX9_feed_86 (by decide) ?_
        refine lv_bipush (v := 8) hx hb dX9_feed_88 (by decide) ?_
        refine lv_iload hx hb dX9_feed_90 (lv_at hl 1 rfl) ?_
        refine lv_iconst (v := 3) hx hb dX9_feed_92 (by decide) ?_
        have ttl_3 := tl_3
        refine lv_iand hx hb dX9_feed_93 ?_
        refine lv_topi (fun x18 ex18 => ?_)
        have hx18 := r_andr ex18 (by omega)
        refine lv_imul hx hb dX9_feed_94 ?_
        refine lv_topi (fun x19 ex19 => ?_)
        have hx19 := r_mull ex19 tl_8 (by omega) (by omega)
        have ttl_24 := tl_24
        refine lv_isub hx hb dX9_feed_95 ?_
        refine lv_topi (fun x20 ex20 => ?_)
        have hx20 := r_sub ex20 (by omega) (by omega)
        refine lv_ishr hx hb dX9_feed_96 ?_
        refine lv_topi (fun x21 ex21 => ?_)
        refine lv_i2b hx hb dX9_feed_97 rfl ?_
        refine lv_topi (fun x22 ex22 => ?_)
        obtain ⟨g24, e23⟩ := (show okB cy 1620 (f 149) from hT.1 149 (by decide))
        refine va_bast hx hb hK hP hD hS 149 1 (wl_at (by decide) e23) rfl (vp_in_iff.mpr ⟨by omega, by omega⟩) dX9_feed_98 (fun H locs hP hD hS => ?_)
        obtain ⟨f, hT, hP, hD, e25, hj26⟩ := stU (by decide) (TYm.up hT (by decide) (show OKm ad cy c_text m_taped m_size m_faultKind m_faultPlace m_at m_end m_token m_number m_name c_points c_strands c_units c_told c_ruleFrom c_ruleTo c_code c_eWhat c_eSign m_bank m_rb m_codes m_within m_piled m_unitsInRule m_askStrand m_askTied m_thoughtClaim m_thoughtNeed m_thoughtAll c_roundOf m_acts m_undone m_laid m_firstMove m_seens m_time m_waysNow m_fitting 149 _ from (show okB cy 1620 _ from ⟨_, rfl⟩))) hP hD
        have e27 := (hj26 148 (by decide)).trans e16
        obtain ⟨x28, ex28⟩ : ∃ q : Int32, q = v18_l6 + Int32.ofInt (1) := ⟨_, rfl⟩
        refine lv_iinc (v := x28) (lv' := [(6, .int x28), (7, .int v71_s0), (0, .ref (ad 148)), (1, .int p1), (2, .int p2), (3, .int p3), (4, .int p4), (5, .int p5)]) hx hb dX9_feed_99 hl (k := 1) rfl ex28.symm (by decide) rfl (fun ls hl => ?_)
        have hx28 := r_inc ex28 (by decide) (by omega) (by omega)
        refine lv_goto (tgt := 18) hx hb dX9_feed_102 (by decide) ?_
        exact ih18 f H locs ls x28 (by omega) (by omega) (by omega) hT hP hD hS (lv_sub hl [0, 2, 3, 4, 5, 6, 7] rfl)
      refine lv_iload hx hb dX9_feed_18 (lv_at hl 0 rfl) ?_
      refine lv_bipush (v := 20) hx hb dX9_feed_20 (by decide) ?_
      have ttl_20 := tl_20
      refine lv_icmp_ge (tgt := 105) hx hb dX9_feed_22 (by decide) (fun c29 => ?_) (fun c29 => ?_)
      · have kc29 := c_le c29
        refine lv_aload_n hx hb dX9_feed_105 rfl (lv_at hl 1 rfl) ?_
        refine lv_dup hx hb dX9_feed_106 rfl ?_
        obtain ⟨e45, h30, h31, h32, h33, h34, h35, h36, h37, h38, h39, h40, h41, h42, h43, h44⟩ := (show okX9 ad m_taped m_size m_faultKind m_faultPlace m_at m_end m_token m_number m_name m_bank m_rb m_codes m_within m_piled m_unitsInRule m_askStrand m_askTied m_thoughtClaim m_thoughtNeed m_thoughtAll m_acts m_undone m_laid m_firstMove m_seens m_time m_waysNow m_fitting 148 (f 148) from hT.1 148 (by decide))
        refine va_get (D := D) (cl := vwCl) (ci := 9) (v := .int m_taped) (C := RX9) (T := TX9) (N := 64) hx hb hts in_X9_feed_X9 hown hK hP 148 (wl_at (by decide) e45) rfl 2 (by decide) (hts (.fieldLink RX9 236 "EightReasonsModel" "taped" "I") (List.mem_of_getElem? (i := 1) rfl)) (fun _ h9 => h9) rfl dX9_feed_107 ?_
        refine lv_bipush (v := 20) hx hb dX9_feed_110 (by decide) ?_
        refine lv_iadd hx hb dX9_feed_112 ?_
        refine lv_topi (fun x46 ex46 => ?_)
        have hx46 := r_add ex46 (by omega) (by omega)
        refine va_put (D := D) (cl := vwCl) (ci := 9) (v := .int x46) (ty := tyX9 2) (C := RX9) (T := TX9) (N := 64) hx hb hts in_X9_feed_X9 tyX9 tyX9_ok nmX9 hown hK hP hD hS 148 (wl_at (by decide) e45) rfl 2 (by decide) (hts (.fieldLink RX9 236 "EightReasonsModel" "taped" "I") (List.mem_of_getElem? (i := 1) rfl)) (fun _ h9 => h9) rfl (tyX9_ok 2 (by decide)) rfl rfl (Nat.le_of_ble_eq_true rfl) dX9_feed_113 (fun H locs hP hD hS => ?_)
        obtain ⟨f, hT, hP, hD, e47, hj48⟩ := stU (by decide) (TYm.p148 hT (show OKm ad cy c_text x46 m_size m_faultKind m_faultPlace m_at m_end m_token m_number m_name c_points c_strands c_units c_told c_ruleFrom c_ruleTo c_code c_eWhat c_eSign m_bank m_rb m_codes m_within m_piled m_unitsInRule m_askStrand m_askTied m_thoughtClaim m_thoughtNeed m_thoughtAll c_roundOf m_acts m_undone m_laid m_firstMove m_seens m_time m_waysNow m_fitting 148 _ from (show okX9 ad x46 m_size m_faultKind m_faultPlace m_at m_end m_token m_number m_name m_bank m_rb m_codes m_within m_piled m_unitsInRule m_askStrand m_askTied m_thoughtClaim m_thoughtNeed m_thoughtAll m_acts m_undone m_laid m_firstMove m_seens m_time m_waysNow m_fitting 148 _ from ⟨rfl, by omega, by omega, by omega, by omega, by omega, by omega, by omega, by omega, by omega, by omega, by omega, by omega, by omega, by omega, by omega⟩))) hP hD
        refine lv_aload_n hx hb dX9_feed_116 rfl (lv_at hl 1 rfl) ?_
        refine va_get (D := D) (cl := vwCl) (ci := 9) (v := .int x46) (C := RX9) (T := TX9) (N := 64) hx hb hts in_X9_feed_X9 hown hK hP 148 (wl_at (by decide) e47) rfl 2 (by decide) (hts (.fieldLink RX9 236 "EightReasonsModel" "taped" "I") (List.mem_of_getElem? (i := 1) rfl)) (fun _ h9 => h9) rfl dX9_feed_117 ?_
        exact tI hx hb hr hlk rfl hP hS ⟨(by omega), ⟨x46, hT, by omega⟩⟩ dX9_feed_120
      · have kc29 := c_nle c29
        refine lv_iload hx hb dX9_feed_25 (lv_at hl 0 rfl) ?_
        refine lv_iconst (v := 4) hx hb dX9_feed_27 (by decide) ?_
        have ttl_4 := tl_4
        refine lv_icmp_ge (tgt := 35) hx hb dX9_feed_28 (by decide) (fun c49 => ?_) (fun c49 => ?_)
        · have kc49 := c_le c49
          refine lv_iload hx hb dX9_feed_35 (lv_at hl 0 rfl) ?_
          refine lv_bipush (v := 8) hx hb dX9_feed_37 (by decide) ?_
          have ttl_8 := tl_8
          refine lv_icmp_ge (tgt := 46) hx hb dX9_feed_39 (by decide) (fun c50 => ?_) (fun c50 => ?_)
          · have kc50 := c_le c50
            refine lv_iload hx hb dX9_feed_46 (lv_at hl 0 rfl) ?_
            refine lv_bipush (v := 12) hx hb dX9_feed_48 (by decide) ?_
            have ttl_12 := tl_12
            refine lv_icmp_ge (tgt := 57) hx hb dX9_feed_50 (by decide) (fun c51 => ?_) (fun c51 => ?_)
            · have kc51 := c_le c51
              refine lv_iload hx hb dX9_feed_57 (lv_at hl 0 rfl) ?_
              refine lv_bipush (v := 16) hx hb dX9_feed_59 (by decide) ?_
              have ttl_16 := tl_16
              refine lv_icmp_ge (tgt := 69) hx hb dX9_feed_61 (by decide) (fun c52 => ?_) (fun c52 => ?_)
              · have kc52 := c_le c52
                refine lv_iload hx hb dX9_feed_69 (lv_at hl 6 rfl) ?_
                exact j71 f H locs ls p5 (by omega) (by omega) hT hP hD hS (lv_sub hl [0, 1, 2, 3, 4, 5, 6] rfl)
              · have kc52 := c_nle c52
                refine lv_iload hx hb dX9_feed_64 (lv_at hl 5 rfl) ?_
                refine lv_goto (tgt := 71) hx hb dX9_feed_66 (by decide) ?_
                exact j71 f H locs ls p4 (by omega) (by omega) hT hP hD hS (lv_sub hl [0, 1, 2, 3, 4, 5, 6] rfl)
            · have kc51 := c_nle c51
              refine lv_iload_n hx hb dX9_feed_53 rfl (lv_at hl 4 rfl) ?_
              refine lv_goto (tgt := 71) hx hb dX9_feed_54 (by decide) ?_
              exact j71 f H locs ls p3 (by omega) (by omega) hT hP hD hS (lv_sub hl [0, 1, 2, 3, 4, 5, 6] rfl)
          · have kc50 := c_nle c50
            refine lv_iload_n hx hb dX9_feed_42 rfl (lv_at hl 3 rfl) ?_
            refine lv_goto (tgt := 71) hx hb dX9_feed_43 (by decide) ?_
            exact j71 f H locs ls p2 (by omega) (by omega) hT hP hD hS (lv_sub hl [0, 1, 2, 3, 4, 5, 6] rfl)
        · have kc49 := c_nle c49
          refine lv_iload_n hx hb dX9_feed_31 rfl (lv_at hl 2 rfl) ?_
          refine lv_goto (tgt := 71) hx hb dX9_feed_32 (by decide) ?_
          exact j71 f H locs ls p1 (by omega) (by omega) hT hP hD hS (lv_sub hl [0, 1, 2, 3, 4, 5, 6] rfl)
  refine lv_aload_n hx hb dX9_feed_0 rfl (lv_at hl 0 rfl) ?_
  obtain ⟨e68, h53, h54, h55, h56, h57, h58, h59, h60, h61, h62, h63, h64, h65, h66, h67⟩ := (show okX9 ad m_taped m_size m_faultKind m_faultPlace m_at m_end m_token m_number m_name m_bank m_rb m_codes m_within m_piled m_unitsInRule m_askStrand m_askTied m_thoughtClaim m_thoughtNeed m_thoughtAll m_acts m_undone m_laid m_firstMove m_seens m_time m_waysNow m_fitting 148 (f 148) from hT.1 148 (by decide))
  refine va_get (D := D) (cl := vwCl) (ci := 9) (v := .int m_taped) (C := RX9) (T := TX9) (N := 64) hx hb hts in_X9_feed_X9 hown hK hP 148 (wl_at (by decide) e68) rfl 2 (by decide) (hts (.fieldLink RX9 236 "EightReasonsModel" "taped" "I") (List.mem_of_getElem? (i := 1) rfl)) (fun _ h9 => h9) rfl dX9_feed_1 ?_
  refine lv_bipush (v := 20) hx hb dX9_feed_4 (by decide) ?_
  have ttl_20 := tl_20
  refine lv_iadd hx hb dX9_feed_6 ?_
  refine lv_topi (fun x69 ex69 => ?_)
  have hx69 := r_add ex69 (by omega) (by omega)
  refine lv_sipush (v := 1600) hx hb dX9_feed_7 (by decide) ?_
  have ttl_1600 := tl_1600
  refine lv_icmp_le (tgt := 15) hx hb dX9_feed_10 (by decide) (fun c70 => ?_) (fun c70 => ?_)
  · have kc70 := c_le c70
    refine lv_iconst (v := 0) hx hb dX9_feed_15 (by decide) ?_
    refine lv_istore (lv' := [(6, .int 0), (0, .ref (ad 148)), (1, .int p1), (2, .int p2), (3, .int p3), (4, .int p4), (5, .int p5)]) hx hb dX9_feed_16 hl (by decide) rfl (fun ls hl => ?_)
    have ttl_0 := tl_0
    exact j18 (Int.toNat (21 - (0 : Int32).toInt)) f H locs ls (0 : Int32) (by omega) (by omega) (by omega) hT hP hD hS (lv_sub hl [0, 1, 2, 3, 4, 5, 6] rfl)
  · have kc70 := c_nle c70
    refine lv_iconst (v := (-1)) hx hb dX9_feed_13 (by decide) ?_
    have ttl_m1 := tl_m1
    exact tI hx hb hr hlk rfl hP hS ⟨(by omega), ⟨m_taped, hT, by omega⟩⟩ dX9_feed_14
set_option maxHeartbeats 4000000 in
set_option maxRecDepth 100000 in
theorem s_X9_end_0 (l : Launch) (B0 : Nat) (adK adV : Nat → Nat) (D : va_G) (cy : Nat → ClassId) (ad : Nat → Nat) (fr0 : Nat → va_E) (c_text : Nat → Int32) (m_taped : Int32) (m_size : Int32) (m_faultKind : Int32) (m_faultPlace : Int32) (m_at : Int32) (m_end : Int32) (m_token : Int32) (m_number : Int32) (m_name : Int64) (c_points : Nat → Int32) (c_strands : Nat → Int32) (c_units : Nat → Int32) (c_told : Nat → Int32) (c_ruleFrom : Nat → Int32) (c_ruleTo : Nat → Int32) (c_code : Nat → Int32) (c_eWhat : Nat → Int32) (c_eSign : Nat → Int32) (m_bank : Int32) (m_rb : Int32) (m_codes : Int32) (m_within : Int32) (m_piled : Int32) (m_unitsInRule : Int32) (m_askStrand : Int32) (m_askTied : Int32) (m_thoughtClaim : Int32) (m_thoughtNeed : Int32) (m_thoughtAll : Int32) (c_roundOf : Nat → Int32) (m_acts : Int32) (m_undone : Int32) (m_laid : Int32) (m_firstMove : Int32) (m_seens : Int32) (m_time : Int32) (m_waysNow : Int32) (m_fitting : Int32) (f : Nat → va_E) (hT : TYm ad cy fr0 c_text m_taped m_size m_faultKind m_faultPlace m_at m_end m_token m_number m_name c_points c_strands c_units c_told c_ruleFrom c_ruleTo c_code c_eWhat c_eSign m_bank m_rb m_codes m_within m_piled m_unitsInRule m_askStrand m_askTied m_thoughtClaim m_thoughtNeed m_thoughtAll c_roundOf m_acts m_undone m_laid m_firstMove m_seens m_time m_waysNow m_fitting f) (p1 : Int32) (sz : Nat) : TtI l yX9_end wsX9_end 0 0 [.ref (ad 148), .int p1] B0 adK adV D cy ad f sz (fun (r : Int32) (g : Nat → va_E) => (-1 ≤ r.toInt ∧ r.toInt ≤ 1600) ∧ (∃ (m_taped' : Int32), TYm ad cy fr0 c_text m_taped' m_size m_faultKind m_faultPlace m_at m_end m_token m_number m_name c_points c_strands c_units c_told c_ruleFrom c_ruleTo c_code c_eWhat c_eSign m_bank m_rb m_codes m_within m_piled m_unitsInRule m_askStrand m_askTied m_thoughtClaim m_thoughtNeed m_thoughtAll c_roundOf m_acts m_undone m_laid m_firstMove m_seens m_time m_waysNow m_fitting g)) := by
  refine TtI.of (cc := cX9_end) (maxL := 2) (ty := .int) (own := RX9) (by decide) rfl (Nat.le_of_ble_eq_true rfl) rfl ?_
  intro p e s m below meth c A ls hx hb hr hml hts hown hlk hK hE hP hD hS hA hAB hl
  have hl : lv_has ls 2 [(0, .ref (ad 148)), (1, .int p1)] := hl
  refine st0 (fun H locs hP hS => ?_) hP hS
  refine lv_iload_n hx hb dX9_end_0 rfl (lv_at hl 1 rfl) ?_
  have ttl_0 := tl_0
  refine lv_if_lt (tgt := 12) hx hb dX9_end_1 (by decide) (fun c1 => ?_) (fun c1 => ?_)
  · have kc1 := c_lt c1
    refine lv_iconst (v := (-1)) hx hb dX9_end_12 (by decide) ?_
    have ttl_m1 := tl_m1
    exact tI hx hb hr hlk rfl hP hS ⟨(by omega), ⟨m_taped, hT⟩⟩ dX9_end_13
  · have kc1 := c_nlt c1
    refine lv_iload_n hx hb dX9_end_4 rfl (lv_at hl 1 rfl) ?_
    refine lv_aload_n hx hb dX9_end_5 rfl (lv_at hl 0 rfl) ?_
    obtain ⟨e17, h2, h3, h4, h5, h6, h7, h8, h9, h10, h11, h12, h13, h14, h15, h16⟩ := (show okX9 ad m_taped m_size m_faultKind m_faultPlace m_at m_end m_token m_number m_name m_bank m_rb m_codes m_within m_piled m_unitsInRule m_askStrand m_askTied m_thoughtClaim m_thoughtNeed m_thoughtAll m_acts m_undone m_laid m_firstMove m_seens m_time m_waysNow m_fitting 148 (f 148) from hT.1 148 (by decide))
    refine va_get (D := D) (cl := vwCl) (ci := 9) (v := .int m_taped) (C := RX9) (T := TX9) (N := 64) hx hb hts in_X9_end_X9 hown hK hP 148 (wl_at (by decide) e17) rfl 2 (by decide) (hts (.fieldLink RX9 236 "EightReasonsModel" "taped" "I") (List.mem_of_getElem? (i := 1) rfl)) (fun _ h9 => h9) rfl dX9_end_6 ?_
    refine lv_icmp_le (tgt := 14) hx hb dX9_end_9 (by decide) (fun c18 => ?_) (fun c18 => ?_)
    · have kc18 := c_le c18
      refine lv_aload_n hx hb dX9_end_14 rfl (lv_at hl 0 rfl) ?_
      refine lv_iload_n hx hb dX9_end_15 rfl (lv_at hl 1 rfl) ?_
      refine va_put (D := D) (cl := vwCl) (ci := 9) (v := .int p1) (ty := tyX9 2) (C := RX9) (T := TX9) (N := 64) hx hb hts in_X9_end_X9 tyX9 tyX9_ok nmX9 hown hK hP hD hS 148 (wl_at (by decide) e17) rfl 2 (by decide) (hts (.fieldLink RX9 236 "EightReasonsModel" "taped" "I") (List.mem_of_getElem? (i := 1) rfl)) (fun _ h9 => h9) rfl (tyX9_ok 2 (by decide)) rfl rfl (Nat.le_of_ble_eq_true rfl) dX9_end_16 (fun H locs hP hD hS => ?_)
      obtain ⟨f, hT, hP, hD, e19, hj20⟩ := stU (by decide) (TYm.p148 hT (show OKm ad cy c_text p1 m_size m_faultKind m_faultPlace m_at m_end m_token m_number m_name c_points c_strands c_units c_told c_ruleFrom c_ruleTo c_code c_eWhat c_eSign m_bank m_rb m_codes m_within m_piled m_unitsInRule m_askStrand m_askTied m_thoughtClaim m_thoughtNeed m_thoughtAll c_roundOf m_acts m_undone m_laid m_firstMove m_seens m_time m_waysNow m_fitting 148 _ from (show okX9 ad p1 m_size m_faultKind m_faultPlace m_at m_end m_token m_number m_name m_bank m_rb m_codes m_within m_piled m_unitsInRule m_askStrand m_askTied m_thoughtClaim m_thoughtNeed m_thoughtAll m_acts m_undone m_laid m_firstMove m_seens m_time m_waysNow m_fitting 148 _ from ⟨rfl, by omega, by omega, by omega, by omega, by omega, by omega, by omega, by omega, by omega, by omega, by omega, by omega, by omega, by omega, by omega⟩))) hP hD
      refine lv_iload_n hx hb dX9_end_19 rfl (lv_at hl 1 rfl) ?_
      exact tI hx hb hr hlk rfl hP hS ⟨(by omega), ⟨p1, hT⟩⟩ dX9_end_20
    · have kc18 := c_nle c18
      refine lv_iconst (v := (-1)) hx hb dX9_end_12 (by decide) ?_
      have ttl_m1 := tl_m1
      exact tI hx hb hr hlk rfl hP hS ⟨(by omega), ⟨m_taped, hT⟩⟩ dX9_end_13
set_option maxHeartbeats 4000000 in
set_option maxRecDepth 100000 in
theorem s_X9_clearBank_0 (l : Launch) (B0 : Nat) (adK adV : Nat → Nat) (D : va_G) (cy : Nat → ClassId) (ad : Nat → Nat) (fr0 : Nat → va_E) (c_text : Nat → Int32) (m_taped : Int32) (m_size : Int32) (m_faultKind : Int32) (m_faultPlace : Int32) (m_at : Int32) (m_end : Int32) (m_token : Int32) (m_number : Int32) (m_name : Int64) (c_points : Nat → Int32) (c_strands : Nat → Int32) (c_units : Nat → Int32) (c_told : Nat → Int32) (c_ruleFrom : Nat → Int32) (c_ruleTo : Nat → Int32) (c_code : Nat → Int32) (c_eWhat : Nat → Int32) (c_eSign : Nat → Int32) (m_bank : Int32) (m_rb : Int32) (m_codes : Int32) (m_within : Int32) (m_piled : Int32) (m_unitsInRule : Int32) (m_askStrand : Int32) (m_askTied : Int32) (m_thoughtClaim : Int32) (m_thoughtNeed : Int32) (m_thoughtAll : Int32) (c_roundOf : Nat → Int32) (m_acts : Int32) (m_undone : Int32) (m_laid : Int32) (m_firstMove : Int32) (m_seens : Int32) (m_time : Int32) (m_waysNow : Int32) (m_fitting : Int32) (f : Nat → va_E) (hT : TYm ad cy fr0 c_text m_taped m_size m_faultKind m_faultPlace m_at m_end m_token m_number m_name c_points c_strands c_units c_told c_ruleFrom c_ruleTo c_code c_eWhat c_eSign m_bank m_rb m_codes m_within m_piled m_unitsInRule m_askStrand m_askTied m_thoughtClaim m_thoughtNeed m_thoughtAll c_roundOf m_acts m_undone m_laid m_firstMove m_seens m_time m_waysNow m_fitting f) (sz : Nat) : TtV l yX9_clearBank wsX9_clearBank 0 0 [.ref (ad 148)] B0 adK adV D cy ad f sz (fun (g : Nat → va_E) => True ∧ (∃ (c_points' : Nat → Int32) (c_strands' : Nat → Int32) (c_units' : Nat → Int32) (c_told' : Nat → Int32) (m_codes' : Int32), TYm ad cy fr0 c_text m_taped m_size m_faultKind m_faultPlace m_at m_end m_token m_number m_name c_points' c_strands' c_units' c_told' c_ruleFrom c_ruleTo c_code c_eWhat c_eSign m_bank m_rb m_codes' m_within m_piled m_unitsInRule m_askStrand m_askTied m_thoughtClaim m_thoughtNeed m_thoughtAll c_roundOf m_acts m_undone m_laid m_firstMove m_seens m_time m_waysNow m_fitting g ∧ (0 ≤ m_codes'.toInt ∧ m_codes'.toInt ≤ 560) ∧ m_codes'.toInt = 560 * m_rb.toInt ∧ (bitF (c_told' m_rb.toNatClampNeg) 0).toInt = 0 ∧ Fr1 c_told c_told' m_rb)) := by
  refine TtV.of (cc := cX9_clearBank) (maxL := 1) (own := RX9) (by decide) rfl (Nat.le_of_ble_eq_true rfl) rfl ?_
  intro p e s m below meth c A ls hx hb hr hml hts hown hlk hK hE hP hD hS hA hAB hl
  have hl : lv_has ls 1 [(0, .ref (ad 148))] := hl
  refine st0 (fun H locs hP hS => ?_) hP hS
  refine lv_aload_n hx hb dX9_clearBank_0 rfl (lv_at hl 0 rfl) ?_
  obtain ⟨e16, h1, h2, h3, h4, h5, h6, h7, h8, h9, h10, h11, h12, h13, h14, h15⟩ := (show okX9 ad m_taped m_size m_faultKind m_faultPlace m_at m_end m_token m_number m_name m_bank m_rb m_codes m_within m_piled m_unitsInRule m_askStrand m_askTied m_thoughtClaim m_thoughtNeed m_thoughtAll m_acts m_undone m_laid m_firstMove m_seens m_time m_waysNow m_fitting 148 (f 148) from hT.1 148 (by decide))
  refine va_get (D := D) (cl := vwCl) (ci := 9) (v := .ref (ad 151)) (C := RX9) (T := TX9) (N := 64) hx hb hts in_X9_clearBank_X9 hown hK hP 148 (wl_at (by decide) e16) rfl 11 (by decide) (hts (.fieldLink RX9 20 "EightReasonsModel" "points" "[I") (List.mem_of_getElem? (i := 1) rfl)) (fun _ h9 => h9) rfl dX9_clearBank_1 ?_
  refine lv_aload_n hx hb dX9_clearBank_4 rfl (lv_at hl 0 rfl) ?_
  refine va_get (D := D) (cl := vwCl) (ci := 9) (v := .int m_rb) (C := RX9) (T := TX9) (N := 64) hx hb hts in_X9_clearBank_X9 hown hK hP 148 (wl_at (by decide) e16) rfl 30 (by decide) (hts (.fieldLink RX9 230 "EightReasonsModel" "rb" "I") (List.mem_of_getElem? (i := 2) rfl)) (fun _ h9 => h9) rfl dX9_clearBank_5 ?_
  refine lv_iconst (v := 0) hx hb dX9_clearBank_8 (by decide) ?_
  obtain ⟨e17, h18⟩ := (show okIpr cy 2 (0) (10) 1 0 c_points (f 151) from hT.1 151 (by decide))
  have ttl_0 := tl_0
  refine va_iast hx hb hK hP hD hS 151 0 (wl_at (by decide) e17) rfl (vp_in_iff.mpr ⟨by omega, by omega⟩) dX9_clearBank_9 (fun H locs hP hD hS => ?_)
  obtain ⟨c19, ec19⟩ : ∃ q, q = upd c_points (Int32.toNatClampNeg m_rb) 0 := ⟨_, rfl⟩
  rw [← ec19] at hP hD
  obtain ⟨f, hT, hP, hD, e20, hj21⟩ := stU (by decide) (TYm.p151 hT (show OKm ad cy c_text m_taped m_size m_faultKind m_faultPlace m_at m_end m_token m_number m_name c19 c_strands c_units c_told c_ruleFrom c_ruleTo c_code c_eWhat c_eSign m_bank m_rb m_codes m_within m_piled m_unitsInRule m_askStrand m_askTied m_thoughtClaim m_thoughtNeed m_thoughtAll c_roundOf m_acts m_undone m_laid m_firstMove m_seens m_time m_waysNow m_fitting 151 _ from (show okIpr cy 2 (0) (10) 1 0 c19 _ from ⟨rfl, by rw [ec19]; exact upd_r h18 (fun _ => by omega)⟩))) hP hD
  have e22 := (hj21 148 (by decide)).trans e16
  refine lv_aload_n hx hb dX9_clearBank_10 rfl (lv_at hl 0 rfl) ?_
  refine va_get (D := D) (cl := vwCl) (ci := 9) (v := .ref (ad 152)) (C := RX9) (T := TX9) (N := 64) hx hb hts in_X9_clearBank_X9 hown hK hP 148 (wl_at (by decide) e22) rfl 12 (by decide) (hts (.fieldLink RX9 24 "EightReasonsModel" "strands" "[I") (List.mem_of_getElem? (i := 3) rfl)) (fun _ h9 => h9) rfl dX9_clearBank_11 ?_
  refine lv_aload_n hx hb dX9_clearBank_14 rfl (lv_at hl 0 rfl) ?_
  refine va_get (D := D) (cl := vwCl) (ci := 9) (v := .int m_rb) (C := RX9) (T := TX9) (N := 64) hx hb hts in_X9_clearBank_X9 hown hK hP 148 (wl_at (by decide) e22) rfl 30 (by decide) (hts (.fieldLink RX9 230 "EightReasonsModel" "rb" "I") (List.mem_of_getElem? (i := 2) rfl)) (fun _ h9 => h9) rfl dX9_clearBank_15 ?_
  refine lv_iconst (v := 0) hx hb dX9_clearBank_18 (by decide) ?_
  obtain ⟨e23, h24⟩ := (show okIpr cy 2 (0) (12) 1 0 c_strands (f 152) from hT.1 152 (by decide))
  refine va_iast hx hb hK hP hD hS 152 0 (wl_at (by decide) e23) rfl (vp_in_iff.mpr ⟨by omega, by omega⟩) dX9_clearBank_19 (fun H locs hP hD hS => ?_)
  obtain ⟨c25, ec25⟩ : ∃ q, q = upd c_strands (Int32.toNatClampNeg m_rb) 0 := ⟨_, rfl⟩
  rw [← ec25] at hP hD
  obtain ⟨f, hT, hP, hD, e26, hj27⟩ := stU (by decide) (TYm.p152 hT (show OKm ad cy c_text m_taped m_size m_faultKind m_faultPlace m_at m_end m_token m_number m_name c19 c25 c_units c_told c_ruleFrom c_ruleTo c_code c_eWhat c_eSign m_bank m_rb m_codes m_within m_piled m_unitsInRule m_askStrand m_askTied m_thoughtClaim m_thoughtNeed m_thoughtAll c_roundOf m_acts m_undone m_laid m_firstMove m_seens m_time m_waysNow m_fitting 152 _ from (show okIpr cy 2 (0) (12) 1 0 c25 _ from ⟨rfl, by rw [ec25]; exact upd_r h24 (fun _ => by omega)⟩))) hP hD
  have e28 := (hj27 148 (by decide)).trans e22
  refine lv_aload_n hx hb dX9_clearBank_20 rfl (lv_at hl 0 rfl) ?_
  refine va_get (D := D) (cl := vwCl) (ci := 9) (v := .ref (ad 153)) (C := RX9) (T := TX9) (N := 64) hx hb hts in_X9_clearBank_X9 hown hK hP 148 (wl_at (by decide) e28) rfl 13 (by decide) (hts (.fieldLink RX9 27 "EightReasonsModel" "units" "[I") (List.mem_of_getElem? (i := 4) rfl)) (fun _ h9 => h9) rfl dX9_clearBank_21 ?_
  refine lv_aload_n hx hb dX9_clearBank_24 rfl (lv_at hl 0 rfl) ?_
  refine va_get (D := D) (cl := vwCl) (ci := 9) (v := .int m_rb) (C := RX9) (T := TX9) (N := 64) hx hb hts in_X9_clearBank_X9 hown hK hP 148 (wl_at (by decide) e28) rfl 30 (by decide) (hts (.fieldLink RX9 230 "EightReasonsModel" "rb" "I") (List.mem_of_getElem? (i := 2) rfl)) (fun _ h9 => h9) rfl dX9_clearBank_25 ?_
  refine lv_iconst (v := 0) hx hb dX9_clearBank_28 (by decide) ?_
  have e29 : f 153 = _ := (show okIp cy 2 c_units (f 153) from hT.1 153 (by decide))
  refine va_iast hx hb hK hP hD hS 153 0 (wl_at (by decide) e29) rfl (vp_in_iff.mpr ⟨by omega, by omega⟩) dX9_clearBank_29 (fun H locs hP hD hS => ?_)
  obtain ⟨c30, ec30⟩ : ∃ q, q = upd c_units (Int32.toNatClampNeg m_rb) 0 := ⟨_, rfl⟩
  rw [← ec30] at hP hD
  obtain ⟨f, hT, hP, hD, e31, hj32⟩ := stU (by decide) (TYm.p153 hT (show OKm ad cy c_text m_taped m_size m_faultKind m_faultPlace m_at m_end m_token m_number m_name c19 c25 c30 c_told c_ruleFrom c_ruleTo c_code c_eWhat c_eSign m_bank m_rb m_codes m_within m_piled m_unitsInRule m_askStrand m_askTied m_thoughtClaim m_thoughtNeed m_thoughtAll c_roundOf m_acts m_undone m_laid m_firstMove m_seens m_time m_waysNow m_fitting 153 _ from (show okIp cy 2 c30 _ from rfl))) hP hD
  have e33 := (hj32 148 (by decide)).trans e28
  refine lv_aload_n hx hb dX9_clearBank_30 rfl (lv_at hl 0 rfl) ?_
  refine va_get (D := D) (cl := vwCl) (ci := 9) (v := .ref (ad 154)) (C := RX9) (T := TX9) (N := 64) hx hb hts in_X9_clearBank_X9 hown hK hP 148 (wl_at (by decide) e33) rfl 14 (by decide) (hts (.fieldLink RX9 30 "EightReasonsModel" "fray" "[I") (List.mem_of_getElem? (i := 5) rfl)) (fun _ h9 => h9) rfl dX9_clearBank_31 ?_
  refine lv_aload_n hx hb dX9_clearBank_34 rfl (lv_at hl 0 rfl) ?_
  refine va_get (D := D) (cl := vwCl) (ci := 9) (v := .int m_rb) (C := RX9) (T := TX9) (N := 64) hx hb hts in_X9_clearBank_X9 hown hK hP 148 (wl_at (by decide) e33) rfl 30 (by decide) (hts (.fieldLink RX9 230 "EightReasonsModel" "rb" "I") (List.mem_of_getElem? (i := 2) rfl)) (fun _ h9 => h9) rfl dX9_clearBank_35 ?_
  refine lv_iconst (v := 0) hx hb dX9_clearBank_38 (by decide) ?_
  obtain ⟨g35, e34⟩ := (show okI cy 2 (f 154) from hT.1 154 (by decide))
  refine va_iast hx hb hK hP hD hS 154 0 (wl_at (by decide) e34) rfl (vp_in_iff.mpr ⟨by omega, by omega⟩) dX9_clearBank_39 (fun H locs hP hD hS => ?_)
  obtain ⟨f, hT, hP, hD, e36, hj37⟩ := stU (by decide) (TYm.up hT (by decide) (show OKm ad cy c_text m_taped m_size m_faultKind m_faultPlace m_at m_end m_token m_number m_name c19 c25 c30 c_told c_ruleFrom c_ruleTo c_code c_eWhat c_eSign m_bank m_rb m_codes m_within m_piled m_unitsInRule m_askStrand m_askTied m_thoughtClaim m_thoughtNeed m_thoughtAll c_roundOf m_acts m_undone m_laid m_firstMove m_seens m_time m_waysNow m_fitting 154 _ from (show okI cy 2 _ from ⟨_, rfl⟩))) hP hD
  have e38 := (hj37 148 (by decide)).trans e33
  refine lv_aload_n hx hb dX9_clearBank_40 rfl (lv_at hl 0 rfl) ?_
  refine va_get (D := D) (cl := vwCl) (ci := 9) (v := .ref (ad 155)) (C := RX9) (T := TX9) (N := 64) hx hb hts in_X9_clearBank_X9 hown hK hP 148 (wl_at (by decide) e38) rfl 15 (by decide) (hts (.fieldLink RX9 33 "EightReasonsModel" "draw" "[I") (List.mem_of_getElem? (i := 6) rfl)) (fun _ h9 => h9) rfl dX9_clearBank_41 ?_
  refine lv_aload_n hx hb dX9_clearBank_44 rfl (lv_at hl 0 rfl) ?_
  refine va_get (D := D) (cl := vwCl) (ci := 9) (v := .int m_rb) (C := RX9) (T := TX9) (N := 64) hx hb hts in_X9_clearBank_X9 hown hK hP 148 (wl_at (by decide) e38) rfl 30 (by decide) (hts (.fieldLink RX9 230 "EightReasonsModel" "rb" "I") (List.mem_of_getElem? (i := 2) rfl)) (fun _ h9 => h9) rfl dX9_clearBank_45 ?_
  refine lv_iconst (v := 0) hx hb dX9_clearBank_48 (by decide) ?_
  obtain ⟨g40, e39⟩ := (show okI cy 2 (f 155) from hT.1 155 (by decide))
  refine va_iast hx hb hK hP hD hS 155 0 (wl_at (by decide) e39) rfl (vp_in_iff.mpr ⟨by omega, by omega⟩) dX9_clearBank_49 (fun H locs hP hD hS => ?_)
  obtain ⟨f, hT, hP, hD, e41, hj42⟩ := stU (by decide) (TYm.up hT (by decide) (show OKm ad cy c_text m_taped m_size m_faultKind m_faultPlace m_at m_end m_token m_number m_name c19 c25 c30 c_told c_ruleFrom c_ruleTo c_code c_eWhat c_eSign m_bank m_rb m_codes m_within m_piled m_unitsInRule m_askStrand m_askTied m_thoughtClaim m_thoughtNeed m_thoughtAll c_roundOf m_acts m_undone m_laid m_firstMove m_seens m_time m_waysNow m_fitting 155 _ from (show okI cy 2 _ from ⟨_, rfl⟩))) hP hD
  have e43 := (hj42 148 (by decide)).trans e38
  refine lv_aload_n hx hb dX9_clearBank_50 rfl (lv_at hl 0 rfl) ?_
  refine va_get (D := D) (cl := vwCl) (ci := 9) (v := .ref (ad 156)) (C := RX9) (T := TX9) (N := 64) hx hb hts in_X9_clearBank_X9 hown hK hP 148 (wl_at (by decide) e43) rfl 16 (by decide) (hts (.fieldLink RX9 36 "EightReasonsModel" "told" "[I") (List.mem_of_getElem? (i := 7) rfl)) (fun _ h9 => h9) rfl dX9_clearBank_51 ?_
  refine lv_aload_n hx hb dX9_clearBank_54 rfl (lv_at hl 0 rfl) ?_
  refine va_get (D := D) (cl := vwCl) (ci := 9) (v := .int m_rb) (C := RX9) (T := TX9) (N := 64) hx hb hts in_X9_clearBank_X9 hown hK hP 148 (wl_at (by decide) e43) rfl 30 (by decide) (hts (.fieldLink RX9 230 "EightReasonsModel" "rb" "I") (List.mem_of_getElem? (i := 2) rfl)) (fun _ h9 => h9) rfl dX9_clearBank_55 ?_
  refine lv_iconst (v := 0) hx hb dX9_clearBank_58 (by decide) ?_
  have e44 : f 156 = _ := (show okIp cy 2 c_told (f 156) from hT.1 156 (by decide))
  refine va_iast hx hb hK hP hD hS 156 0 (wl_at (by decide) e44) rfl (vp_in_iff.mpr ⟨by omega, by omega⟩) dX9_clearBank_59 (fun H locs hP hD hS => ?_)
  obtain ⟨c45, ec45⟩ : ∃ q, q = upd c_told (Int32.toNatClampNeg m_rb) 0 := ⟨_, rfl⟩
  rw [← ec45] at hP hD
  obtain ⟨f, hT, hP, hD, e46, hj47⟩ := stU (by decide) (TYm.p156 hT (show OKm ad cy c_text m_taped m_size m_faultKind m_faultPlace m_at m_end m_token m_number m_name c19 c25 c30 c45 c_ruleFrom c_ruleTo c_code c_eWhat c_eSign m_bank m_rb m_codes m_within m_piled m_unitsInRule m_askStrand m_askTied m_thoughtClaim m_thoughtNeed m_thoughtAll c_roundOf m_acts m_undone m_laid m_firstMove m_seens m_time m_waysNow m_fitting 156 _ from (show okIp cy 2 c45 _ from rfl))) hP hD
  have e48 := (hj47 148 (by decide)).trans e43
  refine lv_aload_n hx hb dX9_clearBank_60 rfl (lv_at hl 0 rfl) ?_
  refine lv_sipush (v := 560) hx hb dX9_clearBank_61 (by decide) ?_
  refine lv_aload_n hx hb dX9_clearBank_64 rfl (lv_at hl 0 rfl) ?_
  refine va_get (D := D) (cl := vwCl) (ci := 9) (v := .int m_rb) (C := RX9) (T := TX9) (N := 64) hx hb hts in_X9_clearBank_X9 hown hK hP 148 (wl_at (by decide) e48) rfl 30 (by decide) (hts (.fieldLink RX9 230 "EightReasonsModel" "rb" "I") (List.mem_of_getElem? (i := 2) rfl)) (fun _ h9 => h9) rfl dX9_clearBank_65 ?_
  refine lv_imul hx hb dX9_clearBank_68 ?_
  refine lv_topi (fun x49 ex49 => ?_)
  have hx49 := r_mull ex49 tl_560 (by omega) (by omega)
  refine va_put (D := D) (cl := vwCl) (ci := 9) (v := .int x49) (ty := tyX9 31) (C := RX9) (T := TX9) (N := 64) hx hb hts in_X9_clearBank_X9 tyX9 tyX9_ok nmX9 hown hK hP hD hS 148 (wl_at (by decide) e48) rfl 31 (by decide) (hts (.fieldLink RX9 233 "EightReasonsModel" "codes" "I") (List.mem_of_getElem? (i := 8) rfl)) (fun _ h9 => h9) rfl (tyX9_ok 31 (by decide)) rfl rfl (Nat.le_of_ble_eq_true rfl) dX9_clearBank_69 (fun H locs hP hD hS => ?_)
  obtain ⟨f, hT, hP, hD, e50, hj51⟩ := stU (by decide) (TYm.p148 hT (show OKm ad cy c_text m_taped m_size m_faultKind m_faultPlace m_at m_end m_token m_number m_name c19 c25 c30 c45 c_ruleFrom c_ruleTo c_code c_eWhat c_eSign m_bank m_rb x49 m_within m_piled m_unitsInRule m_askStrand m_askTied m_thoughtClaim m_thoughtNeed m_thoughtAll c_roundOf m_acts m_undone m_laid m_firstMove m_seens m_time m_waysNow m_fitting 148 _ from (show okX9 ad m_taped m_size m_faultKind m_faultPlace m_at m_end m_token m_number m_name m_bank m_rb x49 m_within m_piled m_unitsInRule m_askStrand m_askTied m_thoughtClaim m_thoughtNeed m_thoughtAll m_acts m_undone m_laid m_firstMove m_seens m_time m_waysNow m_fitting 148 _ from ⟨rfl, by omega, by omega, by omega, by omega, by omega, by omega, by omega, by omega, by omega, by omega, by omega, by omega, by omega, by omega, by omega⟩))) hP hD
  have hb0 : (bitF (c45 m_rb.toNatClampNeg) 0).toInt = 0 := by rw [ec45, pk_us]; decide
  have hF_told := Fr1_up (g := c_told) (g' := c45) (by assumption)
  exact tV hx hb hr hlk hP hS ⟨trivial, ⟨c19, c25, c30, c45, x49, hT, by omega, by omega, by omega, hF_told⟩⟩ dX9_clearBank_72
set_option maxHeartbeats 4000000 in
set_option maxRecDepth 100000 in
theorem s_X9_isDigit_0 (l : Launch) (B0 : Nat) (adK adV : Nat → Nat) (D : va_G) (cy : Nat → ClassId) (ad : Nat → Nat) (f : Nat → va_E) (p0 : Int32) (hp0 : 0 ≤ p0.toInt ∧ p0.toInt ≤ 255) (sz : Nat) : TtI l yX9_isDigit wsX9_isDigit 0 0 [.int p0] B0 adK adV D cy ad f sz (fun (r : Int32) (g : Nat → va_E) => ((r = 1 ∧ 48 ≤ p0.toInt ∧ p0.toInt ≤ 57) ∨ (r = 0 ∧ (p0.toInt < 48 ∨ 57 < p0.toInt))) ∧ (f = g)) := by
  refine TtI.of (cc := cX9_isDigit) (maxL := 1) (ty := .boolean) (own := RX9) (by decide) rfl (Nat.le_of_ble_eq_true rfl) rfl ?_
  intro p e s m below meth c A ls hx hb hr hml hts hown hlk hK hE hP hD hS hA hAB hl
  have hl : lv_has ls 1 [(0, .int p0)] := hl
  refine st0 (fun H locs hP hS => ?_) hP hS
  refine lv_iload_n hx hb dX9_isDigit_0 rfl (lv_at hl 0 rfl) ?_
  refine lv_bipush (v := 48) hx hb dX9_isDigit_1 (by decide) ?_
  have ttl_48 := tl_48
  refine lv_icmp_lt (tgt := 16) hx hb dX9_isDigit_3 (by decide) (fun c1 => ?_) (fun c1 => ?_)
  · have kc1 := c_lt c1
    refine lv_iconst (v := 0) hx hb dX9_isDigit_16 (by decide) ?_
    have ttl_0 := tl_0
    exact tI hx hb hr hlk rfl hP hS ⟨(Or.inr ⟨rfl, by omega⟩), rfl⟩ dX9_isDigit_17
  · have kc1 := c_nlt c1
    refine lv_iload_n hx hb dX9_isDigit_6 rfl (lv_at hl 0 rfl) ?_
    refine lv_bipush (v := 57) hx hb dX9_isDigit_7 (by decide) ?_
    have ttl_57 := tl_57
    refine lv_icmp_gt (tgt := 16) hx hb dX9_isDigit_9 (by decide) (fun c2 => ?_) (fun c2 => ?_)
    · have kc2 := c_lt c2
      refine lv_iconst (v := 0) hx hb dX9_isDigit_16 (by decide) ?_
      have ttl_0 := tl_0
      exact tI hx hb hr hlk rfl hP hS ⟨(Or.inr ⟨rfl, by omega⟩), rfl⟩ dX9_isDigit_17
    · have kc2 := c_nlt c2
      refine lv_iconst (v := 1) hx hb dX9_isDigit_12 (by decide) ?_
      refine lv_goto (tgt := 17) hx hb dX9_isDigit_13 (by decide) ?_
      have ttl_1 := tl_1
      exact tI hx hb hr hlk rfl hP hS ⟨(Or.inl ⟨rfl, by omega, by omega⟩), rfl⟩ dX9_isDigit_17
set_option maxHeartbeats 4000000 in
set_option maxRecDepth 100000 in
theorem s_X9_isKept_0 (l : Launch) (B0 : Nat) (adK adV : Nat → Nat) (D : va_G) (cy : Nat → ClassId) (ad : Nat → Nat) (f : Nat → va_E) (p0 : Int64) (sz : Nat) : TtI l yX9_isKept wsX9_isKept 0 0 [.long p0] B0 adK adV D cy ad f sz (fun (r : Int32) (g : Nat → va_E) => ((r = 1) ∨ (r = 0)) ∧ (f = g)) := by
  refine TtI.of (cc := cX9_isKept) (maxL := 3) (ty := .boolean) (own := RX9) (by decide) rfl (Nat.le_of_ble_eq_true rfl) rfl ?_
  intro p e s m below meth c A ls hx hb hr hml hts hown hlk hK hE hP hD hS hA hAB hl
  have hl : lv_has ls 3 [(0, .long p0)] := hl
  refine st0 (fun H locs hP hS => ?_) hP hS
  have j122 : ∀ (H : Heap) (locs : List Loc) (ls : Array Slot) (v122_l2 : Int32), (0 ≤ v122_l2.toInt ∧ v122_l2.toInt ≤ 1) → (va_P D vwCl (wl ad f) H) → (va_D A (wl ad f)) → (va_S A s.heap H locs) → (lv_has ls 3 [(2, .int v122_l2), (0, .long p0)]) → W p l e (rmO 0 0 0 0) s m ([.long p0] : List Value).toArray below meth c H locs 0 0 (MQ below (va_Qi (fun (r : Int32) (g : Nat → va_E) => ((r = 1) ∨ (r = 0)) ∧ (f = g)) (fun g t => PstT D ad g t) A) ([.long p0] : List Value).toArray s 0 0 A) (F0 m 122 ls []) := by
    intro H locs ls v122_l2 hv122_l2 hP hD hS hl
    refine lv_iconst (v := 1) hx hb dX9_isKept_122 (by decide) ?_
    refine lv_goto (tgt := 127) hx hb dX9_isKept_123 (by decide) ?_
    have ttl_1 := tl_1
    exact tI hx hb hr hlk rfl hP hS ⟨(Or.inl rfl), rfl⟩ dX9_isKept_127
  have j61 : ∀ (H : Heap) (locs : List Loc) (ls : Array Slot) (v61_s0 : Int32), (0 ≤ v61_s0.toInt ∧ v61_s0.toInt ≤ 1) → (va_P D vwCl (wl ad f) H) → (va_D A (wl ad f)) → (va_S A s.heap H locs) → (lv_has ls 3 [(0, .long p0)]) → W p l e (rmO 0 0 0 0) s m ([.long p0] : List Value).toArray below meth c H locs 0 0 (MQ below (va_Qi (fun (r : Int32) (g : Nat → va_E) => ((r = 1) ∨ (r = 0)) ∧ (f = g)) (fun g t => PstT D ad g t) A) ([.long p0] : List Value).toArray s 0 0 A) (F0 m 61 ls [.int v61_s0]) := by
    intro H locs ls v61_s0 hv61_s0 hP hD hS hl
    refine lv_istore_n (lv' := [(2, .int v61_s0), (0, .long p0)]) hx hb dX9_isKept_61 rfl hl (by decide) rfl (fun ls hl => ?_)
    refine lv_iload_n hx hb dX9_isKept_62 rfl (lv_at hl 0 rfl) ?_
    have ttl_0 := tl_0
    refine lv_if_ne (tgt := 122) hx hb dX9_isKept_63 (by decide) (fun c1 => ?_) (fun c1 => ?_)
    · have kc1 := c_ne c1
      exact j122 H locs ls v61_s0 (by omega) hP hD hS (lv_sub hl [0, 1] rfl)
    · have kc1 := c_eq c1
      refine lv_lload_n hx hb dX9_isKept_66 rfl (lv_at hl 1 rfl) ?_
      have ttlj_1685217655 := tlj_1685217655
      refine lv_ldc2 (v := 1685217655) hx hb hown (hts (.constantLong RX9 157 (1685217655)) (List.mem_of_getElem? (i := 8) rfl)) dX9_isKept_67 ?_
      refine lvcmp hx hb dX9_isKept_70 (fun x2 hx2 => ?_)
      refine lv_if_eq (tgt := 122) hx hb dX9_isKept_71 (by decide) (fun c3 => ?_) (fun c3 => ?_)
      · have kc3 := c_eq c3
        exact j122 H locs ls v61_s0 (by omega) hP hD hS (lv_sub hl [0, 1] rfl)
      · have kc3 := c_ne c3
        refine lv_lload_n hx hb dX9_isKept_74 rfl (lv_at hl 1 rfl) ?_
        have ttlj_29117745638302835 := tlj_29117745638302835
        refine lv_ldc2 (v := 29117745638302835) hx hb hown (hts (.constantLong RX9 159 (29117745638302835)) (List.mem_of_getElem? (i := 9) rfl)) dX9_isKept_75 ?_
        refine lvcmp hx hb dX9_isKept_78 (fun x4 hx4 => ?_)
        refine lv_if_eq (tgt := 122) hx hb dX9_isKept_79 (by decide) (fun c5 => ?_) (fun c5 => ?_)
        · have kc5 := c_eq c5
          exact j122 H locs ls v61_s0 (by omega) hP hD hS (lv_sub hl [0, 1] rfl)
        · have kc5 := c_ne c5
          refine lv_lload_n hx hb dX9_isKept_82 rfl (lv_at hl 1 rfl) ?_
          have ttlj_108256569877870 := tlj_108256569877870
          refine lv_ldc2 (v := 108256569877870) hx hb hown (hts (.constantLong RX9 161 (108256569877870)) (List.mem_of_getElem? (i := 10) rfl)) dX9_isKept_83 ?_
          refine lvcmp hx hb dX9_isKept_86 (fun x6 hx6 => ?_)
          refine lv_if_eq (tgt := 122) hx hb dX9_isKept_87 (by decide) (fun c7 => ?_) (fun c7 => ?_)
          · have kc7 := c_eq c7
            exact j122 H locs ls v61_s0 (by omega) hP hD hS (lv_sub hl [0, 1] rfl)
          · have kc7 := c_ne c7
            refine lv_lload_n hx hb dX9_isKept_90 rfl (lv_at hl 1 rfl) ?_
            have ttlj_6578553 := tlj_6578553
            refine lv_ldc2 (v := 6578553) hx hb hown (hts (.constantLong RX9 163 (6578553)) (List.mem_of_getElem? (i := 11) rfl)) dX9_isKept_91 ?_
            refine lvcmp hx hb dX9_isKept_94 (fun x8 hx8 => ?_)
            refine lv_if_eq (tgt := 122) hx hb dX9_isKept_95 (by decide) (fun c9 => ?_) (fun c9 => ?_)
            · have kc9 := c_eq c9
              exact j122 H locs ls v61_s0 (by omega) hP hD hS (lv_sub hl [0, 1] rfl)
            · have kc9 := c_ne c9
              refine lv_lload_n hx hb dX9_isKept_98 rfl (lv_at hl 1 rfl) ?_
              have ttlj_28530 := tlj_28530
              refine lv_ldc2 (v := 28530) hx hb hown (hts (.constantLong RX9 165 (28530)) (List.mem_of_getElem? (i := 12) rfl)) dX9_isKept_99 ?_
              refine lvcmp hx hb dX9_isKept_102 (fun x10 hx10 => ?_)
              refine lv_if_eq (tgt := 122) hx hb dX9_isKept_103 (by decide) (fun c11 => ?_) (fun c11 => ?_)
              · have kc11 := c_eq c11
                exact j122 H locs ls v61_s0 (by omega) hP hD hS (lv_sub hl [0, 1] rfl)
              · have kc11 := c_ne c11
                refine lv_lload_n hx hb dX9_isKept_106 rfl (lv_at hl 1 rfl) ?_
                have ttlj_6385252 := tlj_6385252
                refine lv_ldc2 (v := 6385252) hx hb hown (hts (.constantLong RX9 167 (6385252)) (List.mem_of_getElem? (i := 13) rfl)) dX9_isKept_107 ?_
                refine lvcmp hx hb dX9_isKept_110 (fun x12 hx12 => ?_)
                refine lv_if_eq (tgt := 122) hx hb dX9_isKept_111 (by decide) (fun c13 => ?_) (fun c13 => ?_)
                · have kc13 := c_eq c13
                  exact j122 H locs ls v61_s0 (by omega) hP hD hS (lv_sub hl [0, 1] rfl)
                · have kc13 := c_ne c13
                  refine lv_lload_n hx hb dX9_isKept_114 rfl (lv_at hl 1 rfl) ?_
                  have ttlj_7237492 := tlj_7237492
                  refine lv_ldc2 (v := 7237492) hx hb hown (hts (.constantLong RX9 169 (7237492)) (List.mem_of_getElem? (i := 14) rfl)) dX9_isKept_115 ?_
                  refine lvcmp hx hb dX9_isKept_118 (fun x14 hx14 => ?_)
                  refine lv_if_ne (tgt := 126) hx hb dX9_isKept_119 (by decide) (fun c15 => ?_) (fun c15 => ?_)
                  · have kc15 := c_ne c15
                    refine lv_iconst (v := 0) hx hb dX9_isKept_126 (by decide) ?_
                    exact tI hx hb hr hlk rfl hP hS ⟨(Or.inr rfl), rfl⟩ dX9_isKept_127
                  · have kc15 := c_eq c15
                    exact j122 H locs ls v61_s0 (by omega) hP hD hS (lv_sub hl [0, 1] rfl)
  have j56 : ∀ (H : Heap) (locs : List Loc) (ls : Array Slot), (va_P D vwCl (wl ad f) H) → (va_D A (wl ad f)) → (va_S A s.heap H locs) → (lv_has ls 3 [(0, .long p0)]) → W p l e (rmO 0 0 0 0) s m ([.long p0] : List Value).toArray below meth c H locs 0 0 (MQ below (va_Qi (fun (r : Int32) (g : Nat → va_E) => ((r = 1) ∨ (r = 0)) ∧ (f = g)) (fun g t => PstT D ad g t) A) ([.long p0] : List Value).toArray s 0 0 A) (F0 m 56 ls []) := by
    intro H locs ls hP hD hS hl
    refine lv_iconst (v := 1) hx hb dX9_isKept_56 (by decide) ?_
    refine lv_goto (tgt := 61) hx hb dX9_isKept_57 (by decide) ?_
    have ttl_1 := tl_1
    exact j61 H locs ls (1 : Int32) (by omega) hP hD hS (lv_sub hl [0] rfl)
  refine lv_lload_n hx hb dX9_isKept_0 rfl (lv_at hl 0 rfl) ?_
  have ttlj_1717658484 := tlj_1717658484
  refine lv_ldc2 (v := 1717658484) hx hb hown (hts (.constantLong RX9 143 (1717658484)) (List.mem_of_getElem? (i := 1) rfl)) dX9_isKept_1 ?_
  refine lvcmp hx hb dX9_isKept_4 (fun x16 hx16 => ?_)
  have ttl_0 := tl_0
  refine lv_if_eq (tgt := 56) hx hb dX9_isKept_5 (by decide) (fun c17 => ?_) (fun c17 => ?_)
  · have kc17 := c_eq c17
    exact j56 H locs ls hP hD hS (lv_sub hl [0] rfl)
  · have kc17 := c_ne c17
    refine lv_lload_n hx hb dX9_isKept_8 rfl (lv_at hl 0 rfl) ?_
    have ttlj_427020085613 := tlj_427020085613
    refine lv_ldc2 (v := 427020085613) hx hb hown (hts (.constantLong RX9 145 (427020085613)) (List.mem_of_getElem? (i := 2) rfl)) dX9_isKept_9 ?_
    refine lvcmp hx hb dX9_isKept_12 (fun x18 hx18 => ?_)
    refine lv_if_eq (tgt := 56) hx hb dX9_isKept_13 (by decide) (fun c19 => ?_) (fun c19 => ?_)
    · have kc19 := c_eq c19
      exact j56 H locs ls hP hD hS (lv_sub hl [0] rfl)
    · have kc19 := c_ne c19
      refine lv_lload_n hx hb dX9_isKept_16 rfl (lv_at hl 0 rfl) ?_
      have ttlj_474147546227 := tlj_474147546227
      refine lv_ldc2 (v := 474147546227) hx hb hown (hts (.constantLong RX9 147 (474147546227)) (List.mem_of_getElem? (i := 3) rfl)) dX9_isKept_17 ?_
      refine lvcmp hx hb dX9_isKept_20 (fun x20 hx20 => ?_)
      refine lv_if_eq (tgt := 56) hx hb dX9_isKept_21 (by decide) (fun c21 => ?_) (fun c21 => ?_)
      · have kc21 := c_eq c21
        exact j56 H locs ls hP hD hS (lv_sub hl [0] rfl)
      · have kc21 := c_ne c21
        refine lv_lload_n hx hb dX9_isKept_24 rfl (lv_at hl 0 rfl) ?_
        have ttlj_126943972388452 := tlj_126943972388452
        refine lv_ldc2 (v := 126943972388452) hx hb hown (hts (.constantLong RX9 149 (126943972388452)) (List.mem_of_getElem? (i := 4) rfl)) dX9_isKept_25 ?_
        refine lvcmp hx hb dX9_isKept_28 (fun x22 hx22 => ?_)
        refine lv_if_eq (tgt := 56) hx hb dX9_isKept_29 (by decide) (fun c23 => ?_) (fun c23 => ?_)
        · have kc23 := c_eq c23
          exact j56 H locs ls hP hD hS (lv_sub hl [0] rfl)
        · have kc23 := c_ne c23
          refine lv_lload_n hx hb dX9_isKept_32 rfl (lv_at hl 0 rfl) ?_
          have ttlj_126943973305959 := tlj_126943973305959
          refine lv_ldc2 (v := 126943973305959) hx hb hown (hts (.constantLong RX9 151 (126943973305959)) (List.mem_of_getElem? (i := 5) rfl)) dX9_isKept_33 ?_
          refine lvcmp hx hb dX9_isKept_36 (fun x24 hx24 => ?_)
          refine lv_if_eq (tgt := 56) hx hb dX9_isKept_37 (by decide) (fun c25 => ?_) (fun c25 => ?_)
          · have kc25 := c_eq c25
            exact j56 H locs ls hP hD hS (lv_sub hl [0] rfl)
          · have kc25 := c_ne c25
            refine lv_lload_n hx hb dX9_isKept_40 rfl (lv_at hl 0 rfl) ?_
            have ttlj_422607680115 := tlj_422607680115
            refine lv_ldc2 (v := 422607680115) hx hb hown (hts (.constantLong RX9 153 (422607680115)) (List.mem_of_getElem? (i := 6) rfl)) dX9_isKept_41 ?_
            refine lvcmp hx hb dX9_isKept_44 (fun x26 hx26 => ?_)
            refine lv_if_eq (tgt := 56) hx hb dX9_isKept_45 (by decide) (fun c27 => ?_) (fun c27 => ?_)
            · have kc27 := c_eq c27
              exact j56 H locs ls hP hD hS (lv_sub hl [0] rfl)
            · have kc27 := c_ne c27
              refine lv_lload_n hx hb dX9_isKept_48 rfl (lv_at hl 0 rfl) ?_
              have ttlj_1718772089 := tlj_1718772089
              refine lv_ldc2 (v := 1718772089) hx hb hown (hts (.constantLong RX9 155 (1718772089)) (List.mem_of_getElem? (i := 7) rfl)) dX9_isKept_49 ?_
              refine lvcmp hx hb dX9_isKept_52 (fun x28 hx28 => ?_)
              refine lv_if_ne (tgt := 60) hx hb dX9_isKept_53 (by decide) (fun c29 => ?_) (fun c29 => ?_)
              · have kc29 := c_ne c29
                refine lv_iconst (v := 0) hx hb dX9_isKept_60 (by decide) ?_
                exact j61 H locs ls (0 : Int32) (by omega) hP hD hS (lv_sub hl [0] rfl)
              · have kc29 := c_eq c29
                exact j56 H locs ls hP hD hS (lv_sub hl [0] rfl)
set_option maxHeartbeats 4000000 in
set_option maxRecDepth 100000 in
theorem s_X9_isLetter_0 (l : Launch) (B0 : Nat) (adK adV : Nat → Nat) (D : va_G) (cy : Nat → ClassId) (ad : Nat → Nat) (f : Nat → va_E) (p0 : Int32) (sz : Nat) : TtI l yX9_isLetter wsX9_isLetter 0 0 [.int p0] B0 adK adV D cy ad f sz (fun (r : Int32) (g : Nat → va_E) => ((r = 1 ∧ 97 ≤ p0.toInt ∧ p0.toInt ≤ 122) ∨ (r = 0 ∧ (p0.toInt < 97 ∨ 122 < p0.toInt))) ∧ (f = g)) := by
  refine TtI.of (cc := cX9_isLetter) (maxL := 1) (ty := .boolean) (own := RX9) (by decide) rfl (Nat.le_of_ble_eq_true rfl) rfl ?_
  intro p e s m below meth c A ls hx hb hr hml hts hown hlk hK hE hP hD hS hA hAB hl
  have hl : lv_has ls 1 [(0, .int p0)] := hl
  refine st0 (fun H locs hP hS => ?_) hP hS
  refine lv_iload_n hx hb dX9_isLetter_0 rfl (lv_at hl 0 rfl) ?_
  refine lv_bipush (v := 97) hx hb dX9_isLetter_1 (by decide) ?_
  have ttl_97 := tl_97
  refine lv_icmp_lt (tgt := 16) hx hb dX9_isLetter_3 (by decide) (fun c1 => ?_) (fun c1 => ?_)
  · have kc1 := c_lt c1
    refine lv_iconst (v := 0) hx hb dX9_isLetter_16 (by decide) ?_
    have ttl_0 := tl_0
    exact tI hx hb hr hlk rfl hP hS ⟨(Or.inr ⟨rfl, by omega⟩), rfl⟩ dX9_isLetter_17
  · have kc1 := c_nlt c1
    refine lv_iload_n hx hb dX9_isLetter_6 rfl (lv_at hl 0 rfl) ?_
    refine lv_bipush (v := 122) hx hb dX9_isLetter_7 (by decide) ?_
    have ttl_122 := tl_122
    refine lv_icmp_gt (tgt := 16) hx hb dX9_isLetter_9 (by decide) (fun c2 => ?_) (fun c2 => ?_)
    · have kc2 := c_lt c2
      refine lv_iconst (v := 0) hx hb dX9_isLetter_16 (by decide) ?_
      have ttl_0 := tl_0
      exact tI hx hb hr hlk rfl hP hS ⟨(Or.inr ⟨rfl, by omega⟩), rfl⟩ dX9_isLetter_17
    · have kc2 := c_nlt c2
      refine lv_iconst (v := 1) hx hb dX9_isLetter_12 (by decide) ?_
      refine lv_goto (tgt := 17) hx hb dX9_isLetter_13 (by decide) ?_
      have ttl_1 := tl_1
      exact tI hx hb hr hlk rfl hP hS ⟨(Or.inl ⟨rfl, by omega, by omega⟩), rfl⟩ dX9_isLetter_17
set_option maxHeartbeats 4000000 in
set_option maxRecDepth 100000 in
theorem s_X9_isSign_0 (l : Launch) (B0 : Nat) (adK adV : Nat → Nat) (D : va_G) (cy : Nat → ClassId) (ad : Nat → Nat) (f : Nat → va_E) (p0 : Int32) (hp0 : 0 ≤ p0.toInt ∧ p0.toInt ≤ 255) (sz : Nat) : TtI l yX9_isSign wsX9_isSign 0 0 [.int p0] B0 adK adV D cy ad f sz (fun (r : Int32) (g : Nat → va_E) => ((r = 1) ∨ (r = 0)) ∧ (f = g)) := by
  refine TtI.of (cc := cX9_isSign) (maxL := 1) (ty := .boolean) (own := RX9) (by decide) rfl (Nat.le_of_ble_eq_true rfl) rfl ?_
  intro p e s m below meth c A ls hx hb hr hml hts hown hlk hK hE hP hD hS hA hAB hl
  have hl : lv_has ls 1 [(0, .int p0)] := hl
  refine st0 (fun H locs hP hS => ?_) hP hS
  have j66 : ∀ (H : Heap) (locs : List Loc) (ls : Array Slot), (37 ≤ p0.toInt ∧ p0.toInt ≤ 62) → (va_P D vwCl (wl ad f) H) → (va_D A (wl ad f)) → (va_S A s.heap H locs) → (lv_has ls 1 [(0, .int p0)]) → W p l e (rmO 0 0 0 0) s m ([.int p0] : List Value).toArray below meth c H locs 0 0 (MQ below (va_Qi (fun (r : Int32) (g : Nat → va_E) => ((r = 1) ∨ (r = 0)) ∧ (f = g)) (fun g t => PstT D ad g t) A) ([.int p0] : List Value).toArray s 0 0 A) (F0 m 66 ls []) := by
    intro H locs ls hv66_l0 hP hD hS hl
    refine lv_iconst (v := 1) hx hb dX9_isSign_66 (by decide) ?_
    refine lv_goto (tgt := 71) hx hb dX9_isSign_67 (by decide) ?_
    have ttl_1 := tl_1
    exact tI hx hb hr hlk rfl hP hS ⟨(Or.inl rfl), rfl⟩ dX9_isSign_71
  refine lv_iload_n hx hb dX9_isSign_0 rfl (lv_at hl 0 rfl) ?_
  refine lv_bipush (v := 59) hx hb dX9_isSign_1 (by decide) ?_
  have ttl_59 := tl_59
  refine lv_icmp_eq (tgt := 66) hx hb dX9_isSign_3 (by decide) (fun c1 => ?_) (fun c1 => ?_)
  · have kc1 := c_eq c1
    exact j66 H locs ls (by omega) hP hD hS (lv_sub hl [0] rfl)
  · have kc1 := c_ne c1
    refine lv_iload_n hx hb dX9_isSign_6 rfl (lv_at hl 0 rfl) ?_
    refine lv_bipush (v := 40) hx hb dX9_isSign_7 (by decide) ?_
    have ttl_40 := tl_40
    refine lv_icmp_eq (tgt := 66) hx hb dX9_isSign_9 (by decide) (fun c2 => ?_) (fun c2 => ?_)
    · have kc2 := c_eq c2
      exact j66 H locs ls (by omega) hP hD hS (lv_sub hl [0] rfl)
    · have kc2 := c_ne c2
      refine lv_iload_n hx hb dX9_isSign_12 rfl (lv_at hl 0 rfl) ?_
      refine lv_bipush (v := 41) hx hb dX9_isSign_13 (by decide) ?_
      have ttl_41 := tl_41
      refine lv_icmp_eq (tgt := 66) hx hb dX9_isSign_15 (by decide) (fun c3 => ?_) (fun c3 => ?_)
      · have kc3 := c_eq c3
        exact j66 H locs ls (by omega) hP hD hS (lv_sub hl [0] rfl)
      · have kc3 := c_ne c3
        refine lv_iload_n hx hb dX9_isSign_18 rfl (lv_at hl 0 rfl) ?_
        refine lv_bipush (v := 60) hx hb dX9_isSign_19 (by decide) ?_
        have ttl_60 := tl_60
        refine lv_icmp_eq (tgt := 66) hx hb dX9_isSign_21 (by decide) (fun c4 => ?_) (fun c4 => ?_)
        · have kc4 := c_eq c4
          exact j66 H locs ls (by omega) hP hD hS (lv_sub hl [0] rfl)
        · have kc4 := c_ne c4
          refine lv_iload_n hx hb dX9_isSign_24 rfl (lv_at hl 0 rfl) ?_
          refine lv_bipush (v := 62) hx hb dX9_isSign_25 (by decide) ?_
          have ttl_62 := tl_62
          refine lv_icmp_eq (tgt := 66) hx hb dX9_isSign_27 (by decide) (fun c5 => ?_) (fun c5 => ?_)
          · have kc5 := c_eq c5
            exact j66 H locs ls (by omega) hP hD hS (lv_sub hl [0] rfl)
          · have kc5 := c_ne c5
            refine lv_iload_n hx hb dX9_isSign_30 rfl (lv_at hl 0 rfl) ?_
            refine lv_bipush (v := 61) hx hb dX9_isSign_31 (by decide) ?_
            have ttl_61 := tl_61
            refine lv_icmp_eq (tgt := 66) hx hb dX9_isSign_33 (by decide) (fun c6 => ?_) (fun c6 => ?_)
            · have kc6 := c_eq c6
              exact j66 H locs ls (by omega) hP hD hS (lv_sub hl [0] rfl)
            · have kc6 := c_ne c6
              refine lv_iload_n hx hb dX9_isSign_36 rfl (lv_at hl 0 rfl) ?_
              refine lv_bipush (v := 43) hx hb dX9_isSign_37 (by decide) ?_
              have ttl_43 := tl_43
              refine lv_icmp_eq (tgt := 66) hx hb dX9_isSign_39 (by decide) (fun c7 => ?_) (fun c7 => ?_)
              · have kc7 := c_eq c7
                exact j66 H locs ls (by omega) hP hD hS (lv_sub hl [0] rfl)
              · have kc7 := c_ne c7
                refine lv_iload_n hx hb dX9_isSign_42 rfl (lv_at hl 0 rfl) ?_
                refine lv_bipush (v := 45) hx hb dX9_isSign_43 (by decide) ?_
                have ttl_45 := tl_45
                refine lv_icmp_eq (tgt := 66) hx hb dX9_isSign_45 (by decide) (fun c8 => ?_) (fun c8 => ?_)
                · have kc8 := c_eq c8
                  exact j66 H locs ls (by omega) hP hD hS (lv_sub hl [0] rfl)
                · have kc8 := c_ne c8
                  refine lv_iload_n hx hb dX9_isSign_48 rfl (lv_at hl 0 rfl) ?_
                  refine lv_bipush (v := 42) hx hb dX9_isSign_49 (by decide) ?_
                  have ttl_42 := tl_42
                  refine lv_icmp_eq (tgt := 66) hx hb dX9_isSign_51 (by decide) (fun c9 => ?_) (fun c9 => ?_)
                  · have kc9 := c_eq c9
                    exact j66 H locs ls (by omega) hP hD hS (lv_sub hl [0] rfl)
                  · have kc9 := c_ne c9
                    refine lv_iload_n hx hb dX9_isSign_54 rfl (lv_at hl 0 rfl) ?_
                    refine lv_bipush (v := 47) hx hb dX9_isSign_55 (by decide) ?_
                    have ttl_47 := tl_47
                    refine lv_icmp_eq (tgt := 66) hx hb dX9_isSign_57 (by decide) (fun c10 => ?_) (fun c10 => ?_)
                    · have kc10 := c_eq c10
                      exact j66 H locs ls (by omega) hP hD hS (lv_sub hl [0] rfl)
                    · have kc10 := c_ne c10
                      refine lv_iload_n hx hb dX9_isSign_60 rfl (lv_at hl 0 rfl) ?_
                      refine lv_bipush (v := 37) hx hb dX9_isSign_61 (by decide) ?_
                      have ttl_37 := tl_37
                      refine lv_icmp_ne (tgt := 70) hx hb dX9_isSign_63 (by decide) (fun c11 => ?_) (fun c11 => ?_)
                      · have kc11 := c_ne c11
                        refine lv_iconst (v := 0) hx hb dX9_isSign_70 (by decide) ?_
                        have ttl_0 := tl_0
                        exact tI hx hb hr hlk rfl hP hS ⟨(Or.inr rfl), rfl⟩ dX9_isSign_71
                      · have kc11 := c_eq c11
                        exact j66 H locs ls (by omega) hP hD hS (lv_sub hl [0] rfl)
set_option maxHeartbeats 4000000 in
set_option maxRecDepth 100000 in
theorem s_X9_sign_0 (l : Launch) (B0 : Nat) (adK adV : Nat → Nat) (D : va_G) (cy : Nat → ClassId) (ad : Nat → Nat) (fr0 : Nat → va_E) (c_text : Nat → Int32) (m_taped : Int32) (m_size : Int32) (m_faultKind : Int32) (m_faultPlace : Int32) (m_at : Int32) (m_end : Int32) (m_token : Int32) (m_number : Int32) (m_name : Int64) (c_points : Nat → Int32) (c_strands : Nat → Int32) (c_units : Nat → Int32) (c_told : Nat → Int32) (c_ruleFrom : Nat → Int32) (c_ruleTo : Nat → Int32) (c_code : Nat → Int32) (c_eWhat : Nat → Int32) (c_eSign : Nat → Int32) (m_bank : Int32) (m_rb : Int32) (m_codes : Int32) (m_within : Int32) (m_piled : Int32) (m_unitsInRule : Int32) (m_askStrand : Int32) (m_askTied : Int32) (m_thoughtClaim : Int32) (m_thoughtNeed : Int32) (m_thoughtAll : Int32) (c_roundOf : Nat → Int32) (m_acts : Int32) (m_undone : Int32) (m_laid : Int32) (m_firstMove : Int32) (m_seens : Int32) (m_time : Int32) (m_waysNow : Int32) (m_fitting : Int32) (f : Nat → va_E) (hT : TYm ad cy fr0 c_text m_taped m_size m_faultKind m_faultPlace m_at m_end m_token m_number m_name c_points c_strands c_units c_told c_ruleFrom c_ruleTo c_code c_eWhat c_eSign m_bank m_rb m_codes m_within m_piled m_unitsInRule m_askStrand m_askTied m_thoughtClaim m_thoughtNeed m_thoughtAll c_roundOf m_acts m_undone m_laid m_firstMove m_seens m_time m_waysNow m_fitting f) (p1 : Int32) (hp1 : 0 ≤ p1.toInt ∧ p1.toInt ≤ 1600) (sz : Nat) : TtI l yX9_sign wsX9_sign 0 0 [.ref (ad 148), .int p1] B0 adK adV D cy ad f sz (fun (r : Int32) (g : Nat → va_E) => ((p1.toInt < m_size.toInt ∧ (sgF c_text m_size p1).toInt = r.toInt ∧ (0 ≤ r.toInt ∧ r.toInt ≤ 255)) ∨ (r = 0 ∧ (sgF c_text m_size p1).toInt = 0)) ∧ (f = g)) := by
  refine TtI.of (cc := cX9_sign) (maxL := 2) (ty := .int) (own := RX9) (by decide) rfl (Nat.le_of_ble_eq_true rfl) rfl ?_
  intro p e s m below meth c A ls hx hb hr hml hts hown hlk hK hE hP hD hS hA hAB hl
  have hl : lv_has ls 2 [(0, .ref (ad 148)), (1, .int p1)] := hl
  refine st0 (fun H locs hP hS => ?_) hP hS
  refine lv_iload_n hx hb dX9_sign_0 rfl (lv_at hl 1 rfl) ?_
  refine lv_aload_n hx hb dX9_sign_1 rfl (lv_at hl 0 rfl) ?_
  obtain ⟨e16, h1, h2, h3, h4, h5, h6, h7, h8, h9, h10, h11, h12, h13, h14, h15⟩ := (show okX9 ad m_taped m_size m_faultKind m_faultPlace m_at m_end m_token m_number m_name m_bank m_rb m_codes m_within m_piled m_unitsInRule m_askStrand m_askTied m_thoughtClaim m_thoughtNeed m_thoughtAll m_acts m_undone m_laid m_firstMove m_seens m_time m_waysNow m_fitting 148 (f 148) from hT.1 148 (by decide))
  refine va_get (D := D) (cl := vwCl) (ci := 9) (v := .int m_size) (C := RX9) (T := TX9) (N := 64) hx hb hts in_X9_sign_X9 hown hK hP 148 (wl_at (by decide) e16) rfl 3 (by decide) (hts (.fieldLink RX9 137 "EightReasonsModel" "size" "I") (List.mem_of_getElem? (i := 1) rfl)) (fun _ h9 => h9) rfl dX9_sign_2 ?_
  refine lv_icmp_ge (tgt := 21) hx hb dX9_sign_5 (by decide) (fun c17 => ?_) (fun c17 => ?_)
  · have kc17 := c_le c17
    have hsg := sgF_out (sz := m_size) (k := p1) (tx := c_text) (by omega)
    refine lv_iconst (v := 0) hx hb dX9_sign_21 (by decide) ?_
    have ttl_0 := tl_0
    exact tI hx hb hr hlk rfl hP hS ⟨(Or.inr ⟨rfl, by omega⟩), rfl⟩ dX9_sign_22
  · have kc17 := c_nle c17
    refine lv_aload_n hx hb dX9_sign_8 rfl (lv_at hl 0 rfl) ?_
    refine va_get (D := D) (cl := vwCl) (ci := 9) (v := .ref (ad 150)) (C := RX9) (T := TX9) (N := 64) hx hb hts in_X9_sign_X9 hown hK hP 148 (wl_at (by decide) e16) rfl 1 (by decide) (hts (.fieldLink RX9 13 "EightReasonsModel" "text" "[B") (List.mem_of_getElem? (i := 2) rfl)) (fun _ h9 => h9) rfl dX9_sign_9 ?_
    refine lv_iload_n hx hb dX9_sign_12 rfl (lv_at hl 1 rfl) ?_
    have e18 : f 150 = _ := (show okBp cy 1600 c_text (f 150) from hT.1 150 (by decide))
    refine va_bald hx hb hK hP 150 1 (wl_at (by decide) e18) rfl (vp_in_iff.mpr ⟨by omega, by omega⟩) dX9_sign_13 ?_
    refine lv_topi (fun x19 ex19 => ?_)
    have kx19 := congrArg Int32.toInt ex19
    refine lv_sipush (v := 255) hx hb dX9_sign_14 (by decide) ?_
    have ttl_255 := tl_255
    refine lv_iand hx hb dX9_sign_17 ?_
    refine lv_topi (fun x20 ex20 => ?_)
    have hx20 := r_andr ex20 (by omega)
    have hsg := sgF_in (sz := m_size) (k := p1) (tx := c_text) (x := x20) (by omega) (by assumption) (by assumption)
    refine lv_goto (tgt := 22) hx hb dX9_sign_18 (by decide) ?_
    exact tI hx hb hr hlk rfl hP hS ⟨(Or.inl ⟨by omega, by omega, by omega⟩), rfl⟩ dX9_sign_22
set_option maxHeartbeats 4000000 in
set_option maxRecDepth 100000 in
theorem s_X9_goOn_0 (l : Launch) (B0 : Nat) (adK adV : Nat → Nat) (D : va_G) (cy : Nat → ClassId) (ad : Nat → Nat) (fr0 : Nat → va_E) (c_text : Nat → Int32) (m_taped : Int32) (m_size : Int32) (m_faultKind : Int32) (m_faultPlace : Int32) (m_at : Int32) (m_end : Int32) (m_token : Int32) (m_number : Int32) (m_name : Int64) (c_points : Nat → Int32) (c_strands : Nat → Int32) (c_units : Nat → Int32) (c_told : Nat → Int32) (c_ruleFrom : Nat → Int32) (c_ruleTo : Nat → Int32) (c_code : Nat → Int32) (c_eWhat : Nat → Int32) (c_eSign : Nat → Int32) (m_bank : Int32) (m_rb : Int32) (m_codes : Int32) (m_within : Int32) (m_piled : Int32) (m_unitsInRule : Int32) (m_askStrand : Int32) (m_askTied : Int32) (m_thoughtClaim : Int32) (m_thoughtNeed : Int32) (m_thoughtAll : Int32) (c_roundOf : Nat → Int32) (m_acts : Int32) (m_undone : Int32) (m_laid : Int32) (m_firstMove : Int32) (m_seens : Int32) (m_time : Int32) (m_waysNow : Int32) (m_fitting : Int32) (f : Nat → va_E) (hT : TYm ad cy fr0 c_text m_taped m_size m_faultKind m_faultPlace m_at m_end m_token m_number m_name c_points c_strands c_units c_told c_ruleFrom c_ruleTo c_code c_eWhat c_eSign m_bank m_rb m_codes m_within m_piled m_unitsInRule m_askStrand m_askTied m_thoughtClaim m_thoughtNeed m_thoughtAll c_roundOf m_acts m_undone m_laid m_firstMove m_seens m_time m_waysNow m_fitting f) (hph_m_end : 0 ≤ m_end.toInt ∧ m_end.toInt ≤ 1600) (hh0 : m_end.toInt ≤ m_size.toInt) (sz : Nat) : TtV l yX9_goOn wsX9_goOn 1 22 [.ref (ad 148)] B0 adK adV D cy ad f sz (fun (g : Nat → va_E) => True ∧ (∃ (m_at' : Int32) (m_end' : Int32) (m_token' : Int32) (m_number' : Int32) (m_name' : Int64), TYm ad cy fr0 c_text m_taped m_size m_faultKind m_faultPlace m_at' m_end' m_token' m_number' m_name' c_points c_strands c_units c_told c_ruleFrom c_ruleTo c_code c_eWhat c_eSign m_bank m_rb m_codes m_within m_piled m_unitsInRule m_askStrand m_askTied m_thoughtClaim m_thoughtNeed m_thoughtAll c_roundOf m_acts m_undone m_laid m_firstMove m_seens m_time m_waysNow m_fitting g ∧ (0 ≤ m_end'.toInt ∧ m_end'.toInt ≤ 1600) ∧ ((m_token'.toInt = 0 ∧ m_at'.toInt = m_size.toInt ∧ m_end'.toInt = m_size.toInt) ∨ (1 ≤ m_token'.toInt ∧ m_at'.toInt < m_end'.toInt ∧ m_end'.toInt ≤ m_size.toInt)) ∧ m_end.toInt ≤ m_at'.toInt)) := by
  refine TtV.of (cc := cX9_goOn) (maxL := 3) (own := RX9) (by decide) rfl (Nat.le_of_ble_eq_true rfl) rfl ?_
  intro p e s m below meth c A ls hx hb hr hml hts hown hlk hK hE hP hD hS hA hAB hl
  have hl : lv_has ls 3 [(0, .ref (ad 148))] := hl
  refine st0 (fun H locs hP hS => ?_) hP hS
  have j355 : ∀ (f : Nat → va_E) (H : Heap) (locs : List Loc) (ls : Array Slot) (v355_l1 : Int32) (v355_s1 : Int32) (v355_p_m_at : Int32) (v355_p_m_end : Int32) (v355_p_m_number : Int32), (48 ≤ v355_l1.toInt ∧ v355_l1.toInt ≤ 57) → (1 ≤ v355_s1.toInt ∧ v355_s1.toInt ≤ 4) → (1 ≤ m_size.toInt ∧ m_size.toInt ≤ 1600) → (0 ≤ v355_p_m_at.toInt ∧ v355_p_m_at.toInt ≤ 1599) → (0 ≤ v355_p_m_end.toInt ∧ v355_p_m_end.toInt ≤ 1600) → (v355_p_m_at.toInt < v355_p_m_end.toInt ∧ v355_p_m_end.toInt ≤ m_size.toInt ∧ m_size.toInt ≤ 1600) → (m_end.toInt ≤ v355_p_m_at.toInt) → (TYm ad cy fr0 c_text m_taped m_size m_faultKind m_faultPlace v355_p_m_at v355_p_m_end m_token v355_p_m_number m_name c_points c_strands c_units c_told c_ruleFrom c_ruleTo c_code c_eWhat c_eSign m_bank m_rb m_codes m_within m_piled m_unitsInRule m_askStrand m_askTied m_thoughtClaim m_thoughtNeed m_thoughtAll c_roundOf m_acts m_undone m_laid m_firstMove m_seens m_time m_waysNow m_fitting f) → (va_P D vwCl (wl ad f) H) → (va_D A (wl ad f)) → (va_S A s.heap H locs) → (lv_has ls 3 [(1, .int v355_l1), (0, .ref (ad 148))]) → W p l e (rmO 1 22 0 0) s m ([.ref (ad 148)] : List Value).toArray below meth c H locs 0 0 (MQ below (va_Qv (fun (g : Nat → va_E) => True ∧ (∃ (m_at' : Int32) (m_end' : Int32) (m_token' : Int32) (m_number' : Int32) (m_name' : Int64), TYm ad cy fr0 c_text m_taped m_size m_faultKind m_faultPlace m_at' m_end' m_token' m_number' m_name' c_points c_strands c_units c_told c_ruleFrom c_ruleTo c_code c_eWhat c_eSign m_bank m_rb m_codes m_within m_piled m_unitsInRule m_askStrand m_askTied m_thoughtClaim m_thoughtNeed m_thoughtAll c_roundOf m_acts m_undone m_laid m_firstMove m_seens m_time m_waysNow m_fitting g ∧ (0 ≤ m_end'.toInt ∧ m_end'.toInt ≤ 1600) ∧ ((m_token'.toInt = 0 ∧ m_at'.toInt = m_size.toInt ∧ m_end'.toInt = m_size.toInt) ∨ (1 ≤ m_token'.toInt ∧ m_at'.toInt < m_end'.toInt ∧ m_end'.toInt ≤ m_size.toInt)) ∧ m_end.toInt ≤ m_at'.toInt)) (fun g t => PstT D ad g t) A) ([.ref (ad 148)] : List Value).toArray s 0 0 A) (F0 m 355 ls [.int v355_s1, .ref (ad 148)]) := by
    intro f H locs ls v355_l1 v355_s1 v355_p_m_at v355_p_m_end v355_p_m_number hv355_l1 hv355_s1 hv355_p_m_size hv355_p_m_at hv355_p_m_end hJ355_0 hJ355_1 hT hP hD hS hl
    obtain ⟨e16, h1, h2, h3, h4, h5, h6, h7, h8, h9, h10, h11, h12, h13, h14, h15⟩ := (show okX9 ad m_taped m_size m_faultKind m_faultPlace v355_p_m_at v355_p_m_end m_token v355_p_m_number m_name m_bank m_rb m_codes m_within m_piled m_unitsInRule m_askStrand m_askTied m_thoughtClaim m_thoughtNeed m_thoughtAll m_acts m_undone m_laid m_firstMove m_seens m_time m_waysNow m_fitting 148 (f 148) from hT.1 148 (by decide))
    refine va_put (D := D) (cl := vwCl) (ci := 9) (v := .int v355_s1) (ty := tyX9 8) (C := RX9) (T := TX9) (N := 64) hx hb hts in_X9_goOn_X9 tyX9 tyX9_ok nmX9 hown hK hP hD hS 148 (wl_at (by decide) e16) rfl 8 (by decide) (hts (.fieldLink RX9 181 "EightReasonsModel" "token" "I") (List.mem_of_getElem? (i := 4) rfl)) (fun _ h9 => h9) rfl (tyX9_ok 8 (by decide)) rfl rfl (Nat.le_of_ble_eq_true rfl) dX9_goOn_355 (fun H locs hP hD hS => ?_)
    obtain ⟨f, hT, hP, hD, e17, hj18⟩ := stU (by decide) (TYm.p148 hT (show OKm ad cy c_text m_taped m_size m_faultKind m_faultPlace v355_p_m_at v355_p_m_end v355_s1 v355_p_m_number m_name c_points c_strands c_units c_told c_ruleFrom c_ruleTo c_code c_eWhat c_eSign m_bank m_rb m_codes m_within m_piled m_unitsInRule m_askStrand m_askTied m_thoughtClaim m_thoughtNeed m_thoughtAll c_roundOf m_acts m_undone m_laid m_firstMove m_seens m_time m_waysNow m_fitting 148 _ from (show okX9 ad m_taped m_size m_faultKind m_faultPlace v355_p_m_at v355_p_m_end v355_s1 v355_p_m_number m_name m_bank m_rb m_codes m_within m_piled m_unitsInRule m_askStrand m_askTied m_thoughtClaim m_thoughtNeed m_thoughtAll m_acts m_undone m_laid m_firstMove m_seens m_time m_waysNow m_fitting 148 _ from ⟨rfl, by omega, by omega, by omega, by omega, by omega, by omega, by omega, by omega, by omega, by omega, by omega, by omega, by omega, by omega, by omega⟩))) hP hD
    refine lv_goto (tgt := 377) hx hb dX9_goOn_358 (by decide) ?_
    exact tV hx hb hr hlk hP hS ⟨trivial, ⟨v355_p_m_at, v355_p_m_end, v355_s1, v355_p_m_number, m_name, hT, by omega, by omega, by omega⟩⟩ dX9_goOn_377
  have j350 : ∀ (f : Nat → va_E) (H : Heap) (locs : List Loc) (ls : Array Slot) (v350_l1 : Int32) (v350_p_m_at : Int32) (v350_p_m_end : Int32) (v350_p_m_number : Int32), (48 ≤ v350_l1.toInt ∧ v350_l1.toInt ≤ 57) → (1 ≤ m_size.toInt ∧ m_size.toInt ≤ 1600) → (0 ≤ v350_p_m_at.toInt ∧ v350_p_m_at.toInt ≤ 1599) → (0 ≤ v350_p_m_end.toInt ∧ v350_p_m_end.toInt ≤ 1600) → (v350_p_m_at.toInt < v350_p_m_end.toInt ∧ v350_p_m_end.toInt ≤ m_size.toInt ∧ m_size.toInt ≤ 1600) → (m_end.toInt ≤ v350_p_m_at.toInt) → (TYm ad cy fr0 c_text m_taped m_size m_faultKind m_faultPlace v350_p_m_at v350_p_m_end m_token v350_p_m_number m_name c_points c_strands c_units c_told c_ruleFrom c_ruleTo c_code c_eWhat c_eSign m_bank m_rb m_codes m_within m_piled m_unitsInRule m_askStrand m_askTied m_thoughtClaim m_thoughtNeed m_thoughtAll c_roundOf m_acts m_undone m_laid m_firstMove m_seens m_time m_waysNow m_fitting f) → (va_P D vwCl (wl ad f) H) → (va_D A (wl ad f)) → (va_S A s.heap H locs) → (lv_has ls 3 [(1, .int v350_l1), (0, .ref (ad 148))]) → W p l e (rmO 1 22 0 0) s m ([.ref (ad 148)] : List Value).toArray below meth c H locs 0 0 (MQ below (va_Qv (fun (g : Nat → va_E) => True ∧ (∃ (m_at' : Int32) (m_end' : Int32) (m_token' : Int32) (m_number' : Int32) (m_name' : Int64), TYm ad cy fr0 c_text m_taped m_size m_faultKind m_faultPlace m_at' m_end' m_token' m_number' m_name' c_points c_strands c_units c_told c_ruleFrom c_ruleTo c_code c_eWhat c_eSign m_bank m_rb m_codes m_within m_piled m_unitsInRule m_askStrand m_askTied m_thoughtClaim m_thoughtNeed m_thoughtAll c_roundOf m_acts m_undone m_laid m_firstMove m_seens m_time m_waysNow m_fitting g ∧ (0 ≤ m_end'.toInt ∧ m_end'.toInt ≤ 1600) ∧ ((m_token'.toInt = 0 ∧ m_at'.toInt = m_size.toInt ∧ m_end'.toInt = m_size.toInt) ∨ (1 ≤ m_token'.toInt ∧ m_at'.toInt < m_end'.toInt ∧ m_end'.toInt ≤ m_size.toInt)) ∧ m_end.toInt ≤ m_at'.toInt)) (fun g t => PstT D ad g t) A) ([.ref (ad 148)] : List Value).toArray s 0 0 A) (F0 m 350 ls [.ref (ad 148)]) := by
    intro f H locs ls v350_l1 v350_p_m_at v350_p_m_end v350_p_m_number hv350_l1 hv350_p_m_size hv350_p_m_at hv350_p_m_end hJ350_0 hJ350_1 hT hP hD hS hl
    refine lv_iconst (v := 1) hx hb dX9_goOn_350 (by decide) ?_
    refine lv_goto (tgt := 355) hx hb dX9_goOn_351 (by decide) ?_
    obtain ⟨e34, h19, h20, h21, h22, h23, h24, h25, h26, h27, h28, h29, h30, h31, h32, h33⟩ := (show okX9 ad m_taped m_size m_faultKind m_faultPlace v350_p_m_at v350_p_m_end m_token v350_p_m_number m_name m_bank m_rb m_codes m_within m_piled m_unitsInRule m_askStrand m_askTied m_thoughtClaim m_thoughtNeed m_thoughtAll m_acts m_undone m_laid m_firstMove m_seens m_time m_waysNow m_fitting 148 (f 148) from hT.1 148 (by decide))
    have ttl_1 := tl_1
    exact j355 f H locs ls v350_l1 (1 : Int32) v350_p_m_at v350_p_m_end v350_p_m_number (by omega) (by omega) (by omega) (by omega) (by omega) (by omega) (by omega) hT hP hD hS (lv_sub hl [0, 1] rfl)
  have j259 : ∀ (N : Nat) (f : Nat → va_E) (H : Heap) (locs : List Loc) (ls : Array Slot) (v259_l1 : Int32) (v259_p_m_at : Int32) (v259_p_m_end : Int32) (v259_p_m_number : Int32), (1602 - v259_p_m_end.toInt ≤ (N : Int)) → (48 ≤ v259_l1.toInt ∧ v259_l1.toInt ≤ 57) → (1 ≤ m_size.toInt ∧ m_size.toInt ≤ 1600) → (0 ≤ v259_p_m_at.toInt ∧ v259_p_m_at.toInt ≤ 1599) → (0 ≤ v259_p_m_end.toInt ∧ v259_p_m_end.toInt ≤ 1600) → (v259_p_m_at.toInt ≤ v259_p_m_end.toInt ∧ v259_p_m_end.toInt ≤ m_size.toInt ∧ m_size.toInt ≤ 1600) → (m_end.toInt ≤ v259_p_m_at.toInt) → (0 ≤ v259_p_m_at.toInt) → ((v259_p_m_end.toInt = v259_p_m_at.toInt → 48 ≤ (sgF c_text m_size v259_p_m_end).toInt ∧ (sgF c_text m_size v259_p_m_end).toInt ≤ 57)) → (TYm ad cy fr0 c_text m_taped m_size m_faultKind m_faultPlace v259_p_m_at v259_p_m_end m_token v259_p_m_number m_name c_points c_strands c_units c_told c_ruleFrom c_ruleTo c_code c_eWhat c_eSign m_bank m_rb m_codes m_within m_piled m_unitsInRule m_askStrand m_askTied m_thoughtClaim m_thoughtNeed m_thoughtAll c_roundOf m_acts m_undone m_laid m_firstMove m_seens m_time m_waysNow m_fitting f) → (va_P D vwCl (wl ad f) H) → (va_D A (wl ad f)) → (va_S A s.heap H locs) → (lv_has ls 3 [(1, .int v259_l1), (0, .ref (ad 148))]) → W p l e (rmO 1 22 0 0) s m ([.ref (ad 148)] : List Value).toArray below meth c H locs 0 0 (MQ below (va_Qv (fun (g : Nat → va_E) => True ∧ (∃ (m_at' : Int32) (m_end' : Int32) (m_token' : Int32) (m_number' : Int32) (m_name' : Int64), TYm ad cy fr0 c_text m_taped m_size m_faultKind m_faultPlace m_at' m_end' m_token' m_number' m_name' c_points c_strands c_units c_told c_ruleFrom c_ruleTo c_code c_eWhat c_eSign m_bank m_rb m_codes m_within m_piled m_unitsInRule m_askStrand m_askTied m_thoughtClaim m_thoughtNeed m_thoughtAll c_roundOf m_acts m_undone m_laid m_firstMove m_seens m_time m_waysNow m_fitting g ∧ (0 ≤ m_end'.toInt ∧ m_end'.toInt ≤ 1600) ∧ ((m_token'.toInt = 0 ∧ m_at'.toInt = m_size.toInt ∧ m_end'.toInt = m_size.toInt) ∨ (1 ≤ m_token'.toInt ∧ m_at'.toInt < m_end'.toInt ∧ m_end'.toInt ≤ m_size.toInt)) ∧ m_end.toInt ≤ m_at'.toInt)) (fun g t => PstT D ad g t) A) ([.ref (ad 148)] : List Value).toArray s 0 0 A) (F0 m 259 ls []) := by
    intro N
    induction N with
    | zero => intro f H locs ls v259_l1 v259_p_m_at v259_p_m_end v259_p_m_number hN hv259_l1 hv259_p_m_size hv259_p_m_at hv259_p_m_end hJ259_0 hJ259_1 hJ259_2 hJ259_3 hT hP hD hS hl; exact absurd hN (by omega)
    | succ N ih259 =>
      intro f H locs ls v259_l1 v259_p_m_at v259_p_m_end v259_p_m_number hN hv259_l1 hv259_p_m_size hv259_p_m_at hv259_p_m_end hJ259_0 hJ259_1 hJ259_2 hJ259_3 hT hP hD hS hl
      have j309 : ∀ (f : Nat → va_E) (H : Heap) (locs : List Loc) (ls : Array Slot) (v309_p_m_number : Int32), (48 ≤ v259_l1.toInt ∧ v259_l1.toInt ≤ 57) → (1 ≤ m_size.toInt ∧ m_size.toInt ≤ 1600) → (0 ≤ v259_p_m_at.toInt ∧ v259_p_m_at.toInt ≤ 1599) → (0 ≤ v259_p_m_end.toInt ∧ v259_p_m_end.toInt ≤ 1599) → (v259_p_m_at.toInt ≤ v259_p_m_end.toInt ∧ v259_p_m_end.toInt < m_size.toInt ∧ m_size.toInt ≤ 1600) → (m_end.toInt ≤ v259_p_m_at.toInt) → (0 ≤ v259_p_m_at.toInt) → (TYm ad cy fr0 c_text m_taped m_size m_faultKind m_faultPlace v259_p_m_at v259_p_m_end m_token v309_p_m_number m_name c_points c_strands c_units c_told c_ruleFrom c_ruleTo c_code c_eWhat c_eSign m_bank m_rb m_codes m_within m_piled m_unitsInRule m_askStrand m_askTied m_thoughtClaim m_thoughtNeed m_thoughtAll c_roundOf m_acts m_undone m_laid m_firstMove m_seens m_time m_waysNow m_fitting f) → (va_P D vwCl (wl ad f) H) → (va_D A (wl ad f)) → (va_S A s.heap H locs) → (lv_has ls 3 [(1, .int v259_l1), (0, .ref (ad 148))]) → W p l e (rmO 1 22 0 0) s m ([.ref (ad 148)] : List Value).toArray below meth c H locs 0 0 (MQ below (va_Qv (fun (g : Nat → va_E) => True ∧ (∃ (m_at' : Int32) (m_end' : Int32) (m_token' : Int32) (m_number' : Int32) (m_name' : Int64), TYm ad cy fr0 c_text m_taped m_size m_faultKind m_faultPlace m_at' m_end' m_token' m_number' m_name' c_points c_strands c_units c_told c_ruleFrom c_ruleTo c_code c_eWhat c_eSign m_bank m_rb m_codes m_within m_piled m_unitsInRule m_askStrand m_askTied m_thoughtClaim m_thoughtNeed m_thoughtAll c_roundOf m_acts m_undone m_laid m_firstMove m_seens m_time m_waysNow m_fitting g ∧ (0 ≤ m_end'.toInt ∧ m_end'.toInt ≤ 1600) ∧ ((m_token'.toInt = 0 ∧ m_at'.toInt = m_size.toInt ∧ m_end'.toInt = m_size.toInt) ∨ (1 ≤ m_token'.toInt ∧ m_at'.toInt < m_end'.toInt ∧ m_end'.toInt ≤ m_size.toInt)) ∧ m_end.toInt ≤ m_at'.toInt)) (fun g t => PstT D ad g t) A) ([.ref (ad 148)] : List Value).toArray s 0 0 A) (F0 m 309 ls []) := by
        intro f H locs ls v309_p_m_number hv309_l1 hv309_p_m_size hv309_p_m_at hv309_p_m_end hJ309_0 hJ309_1 hJ309_2 hT hP hD hS hl
        refine lv_aload_n hx hb dX9_goOn_309 rfl (lv_at hl 1 rfl) ?_
        refine lv_dup hx hb dX9_goOn_310 rfl ?_
        obtain ⟨e50, h35, h36, h37, h38, h39, h40, h41, h42, h43, h44, h45, h46, h47, h48, h49⟩ := (show okX9 ad m_taped m_size m_faultKind m_faultPlace v259_p_m_at v259_p_m_end m_token v309_p_m_number m_name m_bank m_rb m_codes m_within m_piled m_unitsInRule m_askStrand m_askTied m_thoughtClaim m_thoughtNeed m_thoughtAll m_acts m_undone m_laid m_firstMove m_seens m_time m_waysNow m_fitting 148 (f 148) from hT.1 148 (by decide))
        refine va_get (D := D) (cl := vwCl) (ci := 9) (v := .int v259_p_m_end) (C := RX9) (T := TX9) (N := 64) hx hb hts in_X9_goOn_X9 hown hK hP 148 (wl_at (by decide) e50) rfl 7 (by decide) (hts (.fieldLink RX9 171 "EightReasonsModel" "end" "I") (List.mem_of_getElem? (i := 1) rfl)) (fun _ h9 => h9) rfl dX9_goOn_311 ?_
        refine lv_iconst (v := 1) hx hb dX9_goOn_314 (by decide) ?_
        have ttl_1 := tl_1
        refine lv_iadd hx hb dX9_goOn_315 ?_
        refine lv_topi (fun x51 ex51 => ?_)
        have hx51 := r_add ex51 (by omega) (by omega)
        refine va_put (D := D) (cl := vwCl) (ci := 9) (v := .int x51) (ty := tyX9 7) (C := RX9) (T := TX9) (N := 64) hx hb hts in_X9_goOn_X9 tyX9 tyX9_ok nmX9 hown hK hP hD hS 148 (wl_at (by decide) e50) rfl 7 (by decide) (hts (.fieldLink RX9 171 "EightReasonsModel" "end" "I") (List.mem_of_getElem? (i := 1) rfl)) (fun _ h9 => h9) rfl (tyX9_ok 7 (by decide)) rfl rfl (Nat.le_of_ble_eq_true rfl) dX9_goOn_316 (fun H locs hP hD hS => ?_)
        obtain ⟨f, hT, hP, hD, e52, hj53⟩ := stU (by decide) (TYm.p148 hT (show OKm ad cy c_text m_taped m_size m_faultKind m_faultPlace v259_p_m_at x51 m_token v309_p_m_number m_name c_points c_strands c_units c_told c_ruleFrom c_ruleTo c_code c_eWhat c_eSign m_bank m_rb m_codes m_within m_piled m_unitsInRule m_askStrand m_askTied m_thoughtClaim m_thoughtNeed m_thoughtAll c_roundOf m_acts m_undone m_laid m_firstMove m_seens m_time m_waysNow m_fitting 148 _ from (show okX9 ad m_taped m_size m_faultKind m_faultPlace v259_p_m_at x51 m_token v309_p_m_number m_name m_bank m_rb m_codes m_within m_piled m_unitsInRule m_askStrand m_askTied m_thoughtClaim m_thoughtNeed m_thoughtAll m_acts m_undone m_laid m_firstMove m_seens m_time m_waysNow m_fitting 148 _ from ⟨rfl, by omega, by omega, by omega, by omega, by omega, by omega, by omega, by omega, by omega, by omega, by omega, by omega, by omega, by omega, by omega⟩))) hP hD
        refine lv_goto (tgt := 259) hx hb dX9_goOn_319 (by decide) ?_
        exact ih259 f H locs ls v259_l1 v259_p_m_at x51 v309_p_m_number (by omega) (by omega) (by omega) (by omega) (by omega) (by omega) (by omega) (by omega) (by omega) hT hP hD hS (lv_sub hl [0, 1] rfl)
      refine lv_aload_n hx hb dX9_goOn_259 rfl (lv_at hl 1 rfl) ?_
      refine lv_aload_n hx hb dX9_goOn_260 rfl (lv_at hl 1 rfl) ?_
      obtain ⟨e69, h54, h55, h56, h57, h58, h59, h60, h61, h62, h63, h64, h65, h66, h67, h68⟩ := (show okX9 ad m_taped m_size m_faultKind m_faultPlace v259_p_m_at v259_p_m_end m_token v259_p_m_number m_name m_bank m_rb m_codes m_within m_piled m_unitsInRule m_askStrand m_askTied m_thoughtClaim m_thoughtNeed m_thoughtAll m_acts m_undone m_laid m_firstMove m_seens m_time m_waysNow m_fitting 148 (f 148) from hT.1 148 (by decide))
      refine va_get (D := D) (cl := vwCl) (ci := 9) (v := .int v259_p_m_end) (C := RX9) (T := TX9) (N := 64) hx hb hts in_X9_goOn_X9 hown hK hP 148 (wl_at (by decide) e69) rfl 7 (by decide) (hts (.fieldLink RX9 171 "EightReasonsModel" "end" "I") (List.mem_of_getElem? (i := 1) rfl)) (fun _ h9 => h9) rfl dX9_goOn_261 ?_
      refine tVI (As := [.int v259_p_m_end]) (rest := []) (i := 148) ⟨hx, hb, hml, hown, hts⟩ hK hE hP hD hS hA hAB (s_X9_sign_0 l B0 adK adV D cy ad fr0 c_text m_taped m_size m_faultKind m_faultPlace v259_p_m_at v259_p_m_end m_token v259_p_m_number m_name c_points c_strands c_units c_told c_ruleFrom c_ruleTo c_code c_eWhat c_eSign m_bank m_rb m_codes m_within m_piled m_unitsInRule m_askStrand m_askTied m_thoughtClaim m_thoughtNeed m_thoughtAll c_roundOf m_acts m_undone m_laid m_firstMove m_seens m_time m_waysNow m_fitting f hT v259_p_m_end (by omega) _) (cwV 1 hts gX9_goOn_X9_sign rfl rfl rfl (by decide +kernel) ⟨Nat.le_of_ble_eq_true rfl, Nat.le_of_ble_eq_true rfl⟩) (by decide) 9 e69 rfl rfl hl.1 rfl (Nat.le_of_ble_eq_true rfl) dX9_goOn_264 ⟨Nat.le_of_ble_eq_true rfl, Nat.le_of_ble_eq_true rfl⟩ (fun r g H locs hw hP hD hS => ?_)
      obtain ⟨hrs, rfl⟩ := hw
      obtain ⟨x70, rfl⟩ : ∃ q, q = r := ⟨_, rfl⟩
      rcases hrs with ⟨h71, h72, h73⟩ | ⟨rfl, h74⟩
      · refine tSI (As := [.int x70]) (rest := []) ⟨hx, hb, hml, hown, hts⟩ hK hE hP hD hS hA hAB (s_X9_isDigit_0 l B0 adK adV D cy ad f x70 (by omega) _) (va_cwS 1 hts gX9_goOn_X9_isDigit rfl rfl rfl (by decide +kernel) ⟨Nat.le_of_ble_eq_true rfl, Nat.le_of_ble_eq_true rfl⟩) rfl hl.1 rfl (Nat.le_of_ble_eq_true rfl) dX9_goOn_267 ⟨Nat.le_of_ble_eq_true rfl, Nat.le_of_ble_eq_true rfl⟩ (fun r g H locs hw hP hD hS => ?_)
        obtain ⟨hrs, rfl⟩ := hw
        obtain ⟨x75, rfl⟩ : ∃ q, q = r := ⟨_, rfl⟩
        rcases hrs with ⟨rfl, h76, h77⟩ | ⟨rfl, h78⟩
        · refine lv_if_eq (tgt := 322) hx hb dX9_goOn_270 (by decide) (fun c => absurd c (by decide)) (fun _ => ?_)
          refine lv_aload_n hx hb dX9_goOn_273 rfl (lv_at hl 1 rfl) ?_
          refine va_get (D := D) (cl := vwCl) (ci := 9) (v := .int v259_p_m_end) (C := RX9) (T := TX9) (N := 64) hx hb hts in_X9_goOn_X9 hown hK hP 148 (wl_at (by decide) e69) rfl 7 (by decide) (hts (.fieldLink RX9 171 "EightReasonsModel" "end" "I") (List.mem_of_getElem? (i := 1) rfl)) (fun _ h9 => h9) rfl dX9_goOn_274 ?_
          refine lv_aload_n hx hb dX9_goOn_277 rfl (lv_at hl 1 rfl) ?_
          refine va_get (D := D) (cl := vwCl) (ci := 9) (v := .int v259_p_m_at) (C := RX9) (T := TX9) (N := 64) hx hb hts in_X9_goOn_X9 hown hK hP 148 (wl_at (by decide) e69) rfl 6 (by decide) (hts (.fieldLink RX9 174 "EightReasonsModel" "at" "I") (List.mem_of_getElem? (i := 2) rfl)) (fun _ h9 => h9) rfl dX9_goOn_278 ?_
          refine lv_isub hx hb dX9_goOn_281 ?_
          refine lv_topi (fun x79 ex79 => ?_)
          have hx79 := r_sub ex79 (by omega) (by omega)
          refine lv_iconst (v := 4) hx hb dX9_goOn_282 (by decide) ?_
          have ttl_4 := tl_4
          refine lv_icmp_ge (tgt := 309) hx hb dX9_goOn_283 (by decide) (fun c80 => ?_) (fun c80 => ?_)
          · have kc80 := c_le c80
            exact j309 f H locs ls v259_p_m_number (by omega) (by omega) (by omega) (by omega) (by omega) (by omega) (by omega) hT hP hD hS (lv_sub hl [0, 1] rfl)
          · have kc80 := c_nle c80
            refine lv_aload_n hx hb dX9_goOn_286 rfl (lv_at hl 1 rfl) ?_
            refine lv_bipush (v := 10) hx hb dX9_goOn_287 (by decide) ?_
            refine lv_aload_n hx hb dX9_goOn_289 rfl (lv_at hl 1 rfl) ?_
            refine va_get (D := D) (cl := vwCl) (ci := 9) (v := .int v259_p_m_number) (C := RX9) (T := TX9) (N := 64) hx hb hts in_X9_goOn_X9 hown hK hP 148 (wl_at (by decide) e69) rfl 9 (by decide) (hts (.fieldLink RX9 199 "EightReasonsModel" "number" "I") (List.mem_of_getElem? (i := 6) rfl)) (fun _ h9 => h9) rfl dX9_goOn_290 ?_
            refine lv_imul hx hb dX9_goOn_293 ?_
            refine lv_topi (fun x81 ex81 => ?_)
            refine lv_aload_n hx hb dX9_goOn_294 rfl (lv_at hl 1 rfl) ?_
            refine lv_aload_n hx hb dX9_goOn_295 rfl (lv_at hl 1 rfl) ?_
            refine va_get (D := D) (cl := vwCl) (ci := 9) (v := .int v259_p_m_end) (C := RX9) (T := TX9) (N := 64) hx hb hts in_X9_goOn_X9 hown hK hP 148 (wl_at (by decide) e69) rfl 7 (by decide) (hts (.fieldLink RX9 171 "EightReasonsModel" "end" "I") (List.mem_of_getElem? (i := 1) rfl)) (fun _ h9 => h9) rfl dX9_goOn_296 ?_
            refine tVI (As := [.int v259_p_m_end]) (rest := [.int x81, .ref (ad 148)]) (i := 148) ⟨hx, hb, hml, hown, hts⟩ hK hE hP hD hS hA hAB (s_X9_sign_0 l B0 adK adV D cy ad fr0 c_text m_taped m_size m_faultKind m_faultPlace v259_p_m_at v259_p_m_end m_token v259_p_m_number m_name c_points c_strands c_units c_told c_ruleFrom c_ruleTo c_code c_eWhat c_eSign m_bank m_rb m_codes m_within m_piled m_unitsInRule m_askStrand m_askTied m_thoughtClaim m_thoughtNeed m_thoughtAll c_roundOf m_acts m_undone m_laid m_firstMove m_seens m_time m_waysNow m_fitting f hT v259_p_m_end (by omega) _) (cwV 1 hts gX9_goOn_X9_sign rfl rfl rfl (by decide +kernel) ⟨Nat.le_of_ble_eq_true rfl, Nat.le_of_ble_eq_true rfl⟩) (by decide) 9 e69 rfl rfl hl.1 rfl (Nat.le_of_ble_eq_true rfl) dX9_goOn_299 ⟨Nat.le_of_ble_eq_true rfl, Nat.le_of_ble_eq_true rfl⟩ (fun r g H locs hw hP hD hS => ?_)
            obtain ⟨hrs, rfl⟩ := hw
            obtain ⟨x82, rfl⟩ : ∃ q, q = r := ⟨_, rfl⟩
            rcases hrs with ⟨h83, h84, h85⟩ | ⟨rfl, h86⟩
            · refine lv_iadd hx hb dX9_goOn_302 ?_
              refine lv_topi (fun x87 ex87 => ?_)
              refine lv_bipush (v := 48) hx hb dX9_goOn_303 (by decide) ?_
              refine lv_isub hx hb dX9_goOn_305 ?_
              refine lv_topi (fun x88 ex88 => ?_)
              refine va_put (D := D) (cl := vwCl) (ci := 9) (v := .int x88) (ty := tyX9 9) (C := RX9) (T := TX9) (N := 64) hx hb hts in_X9_goOn_X9 tyX9 tyX9_ok nmX9 hown hK hP hD hS 148 (wl_at (by decide) e69) rfl 9 (by decide) (hts (.fieldLink RX9 199 "EightReasonsModel" "number" "I") (List.mem_of_getElem? (i := 6) rfl)) (fun _ h9 => h9) rfl (tyX9_ok 9 (by decide)) rfl rfl (Nat.le_of_ble_eq_true rfl) dX9_goOn_306 (fun H locs hP hD hS => ?_)
              obtain ⟨f, hT, hP, hD, e89, hj90⟩ := stU (by decide) (TYm.p148 hT (show OKm ad cy c_text m_taped m_size m_faultKind m_faultPlace v259_p_m_at v259_p_m_end m_token x88 m_name c_points c_strands c_units c_told c_ruleFrom c_ruleTo c_code c_eWhat c_eSign m_bank m_rb m_codes m_within m_piled m_unitsInRule m_askStrand m_askTied m_thoughtClaim m_thoughtNeed m_thoughtAll c_roundOf m_acts m_undone m_laid m_firstMove m_seens m_time m_waysNow m_fitting 148 _ from (show okX9 ad m_taped m_size m_faultKind m_faultPlace v259_p_m_at v259_p_m_end m_token x88 m_name m_bank m_rb m_codes m_within m_piled m_unitsInRule m_askStrand m_askTied m_thoughtClaim m_thoughtNeed m_thoughtAll m_acts m_undone m_laid m_firstMove m_seens m_time m_waysNow m_fitting 148 _ from ⟨rfl, by omega, by omega, by omega, by omega, by omega, by omega, by omega, by omega, by omega, by omega, by omega, by omega, by omega, by omega, by omega⟩))) hP hD
              exact j309 f H locs ls x88 (by omega) (by omega) (by omega) (by omega) (by omega) (by omega) (by omega) hT hP hD hS (lv_sub hl [0, 1] rfl)
            · have ttl_0 := tl_0
              have hg91 := rgI x81
              refine lv_iadd hx hb dX9_goOn_302 ?_
              refine lv_topi (fun x92 ex92 => ?_)
              have hx92 := r_add ex92 (by omega) (by omega)
              refine lv_bipush (v := 48) hx hb dX9_goOn_303 (by decide) ?_
              refine lv_isub hx hb dX9_goOn_305 ?_
              refine lv_topi (fun x93 ex93 => ?_)
              refine va_put (D := D) (cl := vwCl) (ci := 9) (v := .int x93) (ty := tyX9 9) (C := RX9) (T := TX9) (N := 64) hx hb hts in_X9_goOn_X9 tyX9 tyX9_ok nmX9 hown hK hP hD hS 148 (wl_at (by decide) e69) rfl 9 (by decide) (hts (.fieldLink RX9 199 "EightReasonsModel" "number" "I") (List.mem_of_getElem? (i := 6) rfl)) (fun _ h9 => h9) rfl (tyX9_ok 9 (by decide)) rfl rfl (Nat.le_of_ble_eq_true rfl) dX9_goOn_306 (fun H locs hP hD hS => ?_)
              obtain ⟨f, hT, hP, hD, e94, hj95⟩ := stU (by decide) (TYm.p148 hT (show OKm ad cy c_text m_taped m_size m_faultKind m_faultPlace v259_p_m_at v259_p_m_end m_token x93 m_name c_points c_strands c_units c_told c_ruleFrom c_ruleTo c_code c_eWhat c_eSign m_bank m_rb m_codes m_within m_piled m_unitsInRule m_askStrand m_askTied m_thoughtClaim m_thoughtNeed m_thoughtAll c_roundOf m_acts m_undone m_laid m_firstMove m_seens m_time m_waysNow m_fitting 148 _ from (show okX9 ad m_taped m_size m_faultKind m_faultPlace v259_p_m_at v259_p_m_end m_token x93 m_name m_bank m_rb m_codes m_within m_piled m_unitsInRule m_askStrand m_askTied m_thoughtClaim m_thoughtNeed m_thoughtAll m_acts m_undone m_laid m_firstMove m_seens m_time m_waysNow m_fitting 148 _ from ⟨rfl, by omega, by omega, by omega, by omega, by omega, by omega, by omega, by omega, by omega, by omega, by omega, by omega, by omega, by omega, by omega⟩))) hP hD
              exact j309 f H locs ls x93 (by omega) (by omega) (by omega) (by omega) (by omega) (by omega) (by omega) hT hP hD hS (lv_sub hl [0, 1] rfl)
        · refine lv_if_eq (tgt := 322) hx hb dX9_goOn_270 (by decide) (fun _ => ?_) (fun c => absurd (by decide) c)
          refine lv_aload_n hx hb dX9_goOn_322 rfl (lv_at hl 1 rfl) ?_
          refine lv_aload_n hx hb dX9_goOn_323 rfl (lv_at hl 1 rfl) ?_
          refine va_get (D := D) (cl := vwCl) (ci := 9) (v := .int v259_p_m_end) (C := RX9) (T := TX9) (N := 64) hx hb hts in_X9_goOn_X9 hown hK hP 148 (wl_at (by decide) e69) rfl 7 (by decide) (hts (.fieldLink RX9 171 "EightReasonsModel" "end" "I") (List.mem_of_getElem? (i := 1) rfl)) (fun _ h9 => h9) rfl dX9_goOn_324 ?_
          refine lv_aload_n hx hb dX9_goOn_327 rfl (lv_at hl 1 rfl) ?_
          refine va_get (D := D) (cl := vwCl) (ci := 9) (v := .int v259_p_m_at) (C := RX9) (T := TX9) (N := 64) hx hb hts in_X9_goOn_X9 hown hK hP 148 (wl_at (by decide) e69) rfl 6 (by decide) (hts (.fieldLink RX9 174 "EightReasonsModel" "at" "I") (List.mem_of_getElem? (i := 2) rfl)) (fun _ h9 => h9) rfl dX9_goOn_328 ?_
          refine lv_isub hx hb dX9_goOn_331 ?_
          refine lv_topi (fun x96 ex96 => ?_)
          have hx96 := r_sub ex96 (by omega) (by omega)
          refine lv_iconst (v := 4) hx hb dX9_goOn_332 (by decide) ?_
          have ttl_4 := tl_4
          refine lv_icmp_gt (tgt := 350) hx hb dX9_goOn_333 (by decide) (fun c97 => ?_) (fun c97 => ?_)
          · have kc97 := c_lt c97
            exact j350 f H locs ls v259_l1 v259_p_m_at v259_p_m_end v259_p_m_number (by omega) (by omega) (by omega) (by omega) (by omega) (by omega) hT hP hD hS (lv_sub hl [0, 1] rfl)
          · have kc97 := c_nlt c97
            refine lv_aload_n hx hb dX9_goOn_336 rfl (lv_at hl 1 rfl) ?_
            refine lv_aload_n hx hb dX9_goOn_337 rfl (lv_at hl 1 rfl) ?_
            refine va_get (D := D) (cl := vwCl) (ci := 9) (v := .int v259_p_m_end) (C := RX9) (T := TX9) (N := 64) hx hb hts in_X9_goOn_X9 hown hK hP 148 (wl_at (by decide) e69) rfl 7 (by decide) (hts (.fieldLink RX9 171 "EightReasonsModel" "end" "I") (List.mem_of_getElem? (i := 1) rfl)) (fun _ h9 => h9) rfl dX9_goOn_338 ?_
            refine tVI (As := [.int v259_p_m_end]) (rest := [.ref (ad 148)]) (i := 148) ⟨hx, hb, hml, hown, hts⟩ hK hE hP hD hS hA hAB (s_X9_sign_0 l B0 adK adV D cy ad fr0 c_text m_taped m_size m_faultKind m_faultPlace v259_p_m_at v259_p_m_end m_token v259_p_m_number m_name c_points c_strands c_units c_told c_ruleFrom c_ruleTo c_code c_eWhat c_eSign m_bank m_rb m_codes m_within m_piled m_unitsInRule m_askStrand m_askTied m_thoughtClaim m_thoughtNeed m_thoughtAll c_roundOf m_acts m_undone m_laid m_firstMove m_seens m_time m_waysNow m_fitting f hT v259_p_m_end (by omega) _) (cwV 1 hts gX9_goOn_X9_sign rfl rfl rfl (by decide +kernel) ⟨Nat.le_of_ble_eq_true rfl, Nat.le_of_ble_eq_true rfl⟩) (by decide) 9 e69 rfl rfl hl.1 rfl (Nat.le_of_ble_eq_true rfl) dX9_goOn_341 ⟨Nat.le_of_ble_eq_true rfl, Nat.le_of_ble_eq_true rfl⟩ (fun r g H locs hw hP hD hS => ?_)
            obtain ⟨hrs, rfl⟩ := hw
            obtain ⟨x98, rfl⟩ : ∃ q, q = r := ⟨_, rfl⟩
            rcases hrs with ⟨h99, h100, h101⟩ | ⟨rfl, h102⟩
            · refine tSI (As := [.int x98]) (rest := [.ref (ad 148)]) ⟨hx, hb, hml, hown, hts⟩ hK hE hP hD hS hA hAB (s_X9_isLetter_0 l B0 adK adV D cy ad f x98 _) (va_cwS 1 hts gX9_goOn_X9_isLetter rfl rfl rfl (by decide +kernel) ⟨Nat.le_of_ble_eq_true rfl, Nat.le_of_ble_eq_true rfl⟩) rfl hl.1 rfl (Nat.le_of_ble_eq_true rfl) dX9_goOn_344 ⟨Nat.le_of_ble_eq_true rfl, Nat.le_of_ble_eq_true rfl⟩ (fun r g H locs hw hP hD hS => ?_)
              obtain ⟨hrs, rfl⟩ := hw
              obtain ⟨x103, rfl⟩ : ∃ q, q = r := ⟨_, rfl⟩
              rcases hrs with ⟨rfl, h104, h105⟩ | ⟨rfl, h106⟩
              · refine lv_if_eq (tgt := 354) hx hb dX9_goOn_347 (by decide) (fun c => absurd c (by decide)) (fun _ => ?_)
                exact j350 f H locs ls v259_l1 v259_p_m_at v259_p_m_end v259_p_m_number (by omega) (by omega) (by omega) (by omega) (by omega) (by omega) hT hP hD hS (lv_sub hl [0, 1] rfl)
              · refine lv_if_eq (tgt := 354) hx hb dX9_goOn_347 (by decide) (fun _ => ?_) (fun c => absurd (by decide) c)
                refine lv_iconst (v := 4) hx hb dX9_goOn_354 (by decide) ?_
                exact j355 f H locs ls v259_l1 (4 : Int32) v259_p_m_at v259_p_m_end v259_p_m_number (by omega) (by omega) (by omega) (by omega) (by omega) (by omega) (by omega) hT hP hD hS (lv_sub hl [0, 1] rfl)
            · have ttl_0 := tl_0
              refine tSI (As := [.int 0]) (rest := [.ref (ad 148)]) ⟨hx, hb, hml, hown, hts⟩ hK hE hP hD hS hA hAB (s_X9_isLetter_0 l B0 adK adV D cy ad f (0 : Int32) _) (va_cwS 1 hts gX9_goOn_X9_isLetter rfl rfl rfl (by decide +kernel) ⟨Nat.le_of_ble_eq_true rfl, Nat.le_of_ble_eq_true rfl⟩) rfl hl.1 rfl (Nat.le_of_ble_eq_true rfl) dX9_goOn_344 ⟨Nat.le_of_ble_eq_true rfl, Nat.le_of_ble_eq_true rfl⟩ (fun r g H locs hw hP hD hS => ?_)
              obtain ⟨hrs, rfl⟩ := hw
              obtain ⟨x107, rfl⟩ : ∃ q, q = r := ⟨_, rfl⟩
              rcases hrs with ⟨rfl, h108, h109⟩ | ⟨rfl, h110⟩
              · exact False.elim (by omega)
              · refine lv_if_eq (tgt := 354) hx hb dX9_goOn_347 (by decide) (fun _ => ?_) (fun c => absurd (by decide) c)
                refine lv_iconst (v := 4) hx hb dX9_goOn_354 (by decide) ?_
                exact j355 f H locs ls v259_l1 (4 : Int32) v259_p_m_at v259_p_m_end v259_p_m_number (by omega) (by omega) (by omega) (by omega) (by omega) (by omega) (by omega) hT hP hD hS (lv_sub hl [0, 1] rfl)
      · have ttl_0 := tl_0
        refine tSI (As := [.int 0]) (rest := []) ⟨hx, hb, hml, hown, hts⟩ hK hE hP hD hS hA hAB (s_X9_isDigit_0 l B0 adK adV D cy ad f (0 : Int32) (by omega) _) (va_cwS 1 hts gX9_goOn_X9_isDigit rfl rfl rfl (by decide +kernel) ⟨Nat.le_of_ble_eq_true rfl, Nat.le_of_ble_eq_true rfl⟩) rfl hl.1 rfl (Nat.le_of_ble_eq_true rfl) dX9_goOn_267 ⟨Nat.le_of_ble_eq_true rfl, Nat.le_of_ble_eq_true rfl⟩ (fun r g H locs hw hP hD hS => ?_)
        obtain ⟨hrs, rfl⟩ := hw
        obtain ⟨x111, rfl⟩ : ∃ q, q = r := ⟨_, rfl⟩
        rcases hrs with ⟨rfl, h112, h113⟩ | ⟨rfl, h114⟩
        · exact False.elim (by omega)
        · refine lv_if_eq (tgt := 322) hx hb dX9_goOn_270 (by decide) (fun _ => ?_) (fun c => absurd (by decide) c)
          refine lv_aload_n hx hb dX9_goOn_322 rfl (lv_at hl 1 rfl) ?_
          refine lv_aload_n hx hb dX9_goOn_323 rfl (lv_at hl 1 rfl) ?_
          refine va_get (D := D) (cl := vwCl) (ci := 9) (v := .int v259_p_m_end) (C := RX9) (T := TX9) (N := 64) hx hb hts in_X9_goOn_X9 hown hK hP 148 (wl_at (by decide) e69) rfl 7 (by decide) (hts (.fieldLink RX9 171 "EightReasonsModel" "end" "I") (List.mem_of_getElem? (i := 1) rfl)) (fun _ h9 => h9) rfl dX9_goOn_324 ?_
          refine lv_aload_n hx hb dX9_goOn_327 rfl (lv_at hl 1 rfl) ?_
          refine va_get (D := D) (cl := vwCl) (ci := 9) (v := .int v259_p_m_at) (C := RX9) (T := TX9) (N := 64) hx hb hts in_X9_goOn_X9 hown hK hP 148 (wl_at (by decide) e69) rfl 6 (by decide) (hts (.fieldLink RX9 174 "EightReasonsModel" "at" "I") (List.mem_of_getElem? (i := 2) rfl)) (fun _ h9 => h9) rfl dX9_goOn_328 ?_
          refine lv_isub hx hb dX9_goOn_331 ?_
          refine lv_topi (fun x115 ex115 => ?_)
          have hx115 := r_sub ex115 (by omega) (by omega)
          refine lv_iconst (v := 4) hx hb dX9_goOn_332 (by decide) ?_
          have ttl_4 := tl_4
          refine lv_icmp_gt (tgt := 350) hx hb dX9_goOn_333 (by decide) (fun c116 => ?_) (fun c116 => ?_)
          · have kc116 := c_lt c116
            exact j350 f H locs ls v259_l1 v259_p_m_at v259_p_m_end v259_p_m_number (by omega) (by omega) (by omega) (by omega) (by omega) (by omega) hT hP hD hS (lv_sub hl [0, 1] rfl)
          · have kc116 := c_nlt c116
            refine lv_aload_n hx hb dX9_goOn_336 rfl (lv_at hl 1 rfl) ?_
            refine lv_aload_n hx hb dX9_goOn_337 rfl (lv_at hl 1 rfl) ?_
            refine va_get (D := D) (cl := vwCl) (ci := 9) (v := .int v259_p_m_end) (C := RX9) (T := TX9) (N := 64) hx hb hts in_X9_goOn_X9 hown hK hP 148 (wl_at (by decide) e69) rfl 7 (by decide) (hts (.fieldLink RX9 171 "EightReasonsModel" "end" "I") (List.mem_of_getElem? (i := 1) rfl)) (fun _ h9 => h9) rfl dX9_goOn_338 ?_
            refine tVI (As := [.int v259_p_m_end]) (rest := [.ref (ad 148)]) (i := 148) ⟨hx, hb, hml, hown, hts⟩ hK hE hP hD hS hA hAB (s_X9_sign_0 l B0 adK adV D cy ad fr0 c_text m_taped m_size m_faultKind m_faultPlace v259_p_m_at v259_p_m_end m_token v259_p_m_number m_name c_points c_strands c_units c_told c_ruleFrom c_ruleTo c_code c_eWhat c_eSign m_bank m_rb m_codes m_within m_piled m_unitsInRule m_askStrand m_askTied m_thoughtClaim m_thoughtNeed m_thoughtAll c_roundOf m_acts m_undone m_laid m_firstMove m_seens m_time m_waysNow m_fitting f hT v259_p_m_end (by omega) _) (cwV 1 hts gX9_goOn_X9_sign rfl rfl rfl (by decide +kernel) ⟨Nat.le_of_ble_eq_true rfl, Nat.le_of_ble_eq_true rfl⟩) (by decide) 9 e69 rfl rfl hl.1 rfl (Nat.le_of_ble_eq_true rfl) dX9_goOn_341 ⟨Nat.le_of_ble_eq_true rfl, Nat.le_of_ble_eq_true rfl⟩ (fun r g H locs hw hP hD hS => ?_)
            obtain ⟨hrs, rfl⟩ := hw
            obtain ⟨x117, rfl⟩ : ∃ q, q = r := ⟨_, rfl⟩
            rcases hrs with ⟨h118, h119, h120⟩ | ⟨rfl, h121⟩
            · refine tSI (As := [.int x117]) (rest := [.ref (ad 148)]) ⟨hx, hb, hml, hown, hts⟩ hK hE hP hD hS hA hAB (s_X9_isLetter_0 l B0 adK adV D cy ad f x117 _) (va_cwS 1 hts gX9_goOn_X9_isLetter rfl rfl rfl (by decide +kernel) ⟨Nat.le_of_ble_eq_true rfl, Nat.le_of_ble_eq_true rfl⟩) rfl hl.1 rfl (Nat.le_of_ble_eq_true rfl) dX9_goOn_344 ⟨Nat.le_of_ble_eq_true rfl, Nat.le_of_ble_eq_true rfl⟩ (fun r g H locs hw hP hD hS => ?_)
              obtain ⟨hrs, rfl⟩ := hw
              obtain ⟨x122, rfl⟩ : ∃ q, q = r := ⟨_, rfl⟩
              rcases hrs with ⟨rfl, h123, h124⟩ | ⟨rfl, h125⟩
              · refine lv_if_eq (tgt := 354) hx hb dX9_goOn_347 (by decide) (fun c => absurd c (by decide)) (fun _ => ?_)
                exact j350 f H locs ls v259_l1 v259_p_m_at v259_p_m_end v259_p_m_number (by omega) (by omega) (by omega) (by omega) (by omega) (by omega) hT hP hD hS (lv_sub hl [0, 1] rfl)
              · refine lv_if_eq (tgt := 354) hx hb dX9_goOn_347 (by decide) (fun _ => ?_) (fun c => absurd (by decide) c)
                refine lv_iconst (v := 4) hx hb dX9_goOn_354 (by decide) ?_
                exact j355 f H locs ls v259_l1 (4 : Int32) v259_p_m_at v259_p_m_end v259_p_m_number (by omega) (by omega) (by omega) (by omega) (by omega) (by omega) (by omega) hT hP hD hS (lv_sub hl [0, 1] rfl)
            · refine tSI (As := [.int 0]) (rest := [.ref (ad 148)]) ⟨hx, hb, hml, hown, hts⟩ hK hE hP hD hS hA hAB (s_X9_isLetter_0 l B0 adK adV D cy ad f (0 : Int32) _) (va_cwS 1 hts gX9_goOn_X9_isLetter rfl rfl rfl (by decide +kernel) ⟨Nat.le_of_ble_eq_true rfl, Nat.le_of_ble_eq_true rfl⟩) rfl hl.1 rfl (Nat.le_of_ble_eq_true rfl) dX9_goOn_344 ⟨Nat.le_of_ble_eq_true rfl, Nat.le_of_ble_eq_true rfl⟩ (fun r g H locs hw hP hD hS => ?_)
              obtain ⟨hrs, rfl⟩ := hw
              obtain ⟨x126, rfl⟩ : ∃ q, q = r := ⟨_, rfl⟩
              rcases hrs with ⟨rfl, h127, h128⟩ | ⟨rfl, h129⟩
              · exact False.elim (by omega)
              · refine lv_if_eq (tgt := 354) hx hb dX9_goOn_347 (by decide) (fun _ => ?_) (fun c => absurd (by decide) c)
                refine lv_iconst (v := 4) hx hb dX9_goOn_354 (by decide) ?_
                exact j355 f H locs ls v259_l1 (4 : Int32) v259_p_m_at v259_p_m_end v259_p_m_number (by omega) (by omega) (by omega) (by omega) (by omega) (by omega) (by omega) hT hP hD hS (lv_sub hl [0, 1] rfl)
  have j233 : ∀ (f : Nat → va_E) (H : Heap) (locs : List Loc) (ls : Array Slot) (v233_l2 : Int32) (v233_l1 : Int32) (v233_s1 : Int32) (v233_p_m_at : Int32) (v233_p_m_end : Int32) (v233_p_m_name : Int64), (1 ≤ v233_l2.toInt ∧ v233_l2.toInt ≤ 1600) → (97 ≤ v233_l1.toInt ∧ v233_l1.toInt ≤ 122) → (1 ≤ v233_s1.toInt ∧ v233_s1.toInt ≤ 3) → (1 ≤ m_size.toInt ∧ m_size.toInt ≤ 1600) → (0 ≤ v233_p_m_at.toInt ∧ v233_p_m_at.toInt ≤ 1599) → (1 ≤ v233_p_m_end.toInt ∧ v233_p_m_end.toInt ≤ 1600) → (v233_p_m_at.toInt < v233_p_m_end.toInt ∧ v233_p_m_end.toInt ≤ m_size.toInt ∧ m_size.toInt ≤ 1600) → (m_end.toInt ≤ v233_p_m_at.toInt) → (TYm ad cy fr0 c_text m_taped m_size m_faultKind m_faultPlace v233_p_m_at v233_p_m_end m_token m_number v233_p_m_name c_points c_strands c_units c_told c_ruleFrom c_ruleTo c_code c_eWhat c_eSign m_bank m_rb m_codes m_within m_piled m_unitsInRule m_askStrand m_askTied m_thoughtClaim m_thoughtNeed m_thoughtAll c_roundOf m_acts m_undone m_laid m_firstMove m_seens m_time m_waysNow m_fitting f) → (va_P D vwCl (wl ad f) H) → (va_D A (wl ad f)) → (va_S A s.heap H locs) → (lv_has ls 3 [(2, .int v233_l2), (1, .int v233_l1), (0, .ref (ad 148))]) → W p l e (rmO 1 22 0 0) s m ([.ref (ad 148)] : List Value).toArray below meth c H locs 0 0 (MQ below (va_Qv (fun (g : Nat → va_E) => True ∧ (∃ (m_at' : Int32) (m_end' : Int32) (m_token' : Int32) (m_number' : Int32) (m_name' : Int64), TYm ad cy fr0 c_text m_taped m_size m_faultKind m_faultPlace m_at' m_end' m_token' m_number' m_name' c_points c_strands c_units c_told c_ruleFrom c_ruleTo c_code c_eWhat c_eSign m_bank m_rb m_codes m_within m_piled m_unitsInRule m_askStrand m_askTied m_thoughtClaim m_thoughtNeed m_thoughtAll c_roundOf m_acts m_undone m_laid m_firstMove m_seens m_time m_waysNow m_fitting g ∧ (0 ≤ m_end'.toInt ∧ m_end'.toInt ≤ 1600) ∧ ((m_token'.toInt = 0 ∧ m_at'.toInt = m_size.toInt ∧ m_end'.toInt = m_size.toInt) ∨ (1 ≤ m_token'.toInt ∧ m_at'.toInt < m_end'.toInt ∧ m_end'.toInt ≤ m_size.toInt)) ∧ m_end.toInt ≤ m_at'.toInt)) (fun g t => PstT D ad g t) A) ([.ref (ad 148)] : List Value).toArray s 0 0 A) (F0 m 233 ls [.int v233_s1, .ref (ad 148)]) := by
    intro f H locs ls v233_l2 v233_l1 v233_s1 v233_p_m_at v233_p_m_end v233_p_m_name hv233_l2 hv233_l1 hv233_s1 hv233_p_m_size hv233_p_m_at hv233_p_m_end hJ233_0 hJ233_1 hT hP hD hS hl
    obtain ⟨e145, h130, h131, h132, h133, h134, h135, h136, h137, h138, h139, h140, h141, h142, h143, h144⟩ := (show okX9 ad m_taped m_size m_faultKind m_faultPlace v233_p_m_at v233_p_m_end m_token m_number v233_p_m_name m_bank m_rb m_codes m_within m_piled m_unitsInRule m_askStrand m_askTied m_thoughtClaim m_thoughtNeed m_thoughtAll m_acts m_undone m_laid m_firstMove m_seens m_time m_waysNow m_fitting 148 (f 148) from hT.1 148 (by decide))
    refine va_put (D := D) (cl := vwCl) (ci := 9) (v := .int v233_s1) (ty := tyX9 8) (C := RX9) (T := TX9) (N := 64) hx hb hts in_X9_goOn_X9 tyX9 tyX9_ok nmX9 hown hK hP hD hS 148 (wl_at (by decide) e145) rfl 8 (by decide) (hts (.fieldLink RX9 181 "EightReasonsModel" "token" "I") (List.mem_of_getElem? (i := 4) rfl)) (fun _ h9 => h9) rfl (tyX9_ok 8 (by decide)) rfl rfl (Nat.le_of_ble_eq_true rfl) dX9_goOn_233 (fun H locs hP hD hS => ?_)
    obtain ⟨f, hT, hP, hD, e146, hj147⟩ := stU (by decide) (TYm.p148 hT (show OKm ad cy c_text m_taped m_size m_faultKind m_faultPlace v233_p_m_at v233_p_m_end v233_s1 m_number v233_p_m_name c_points c_strands c_units c_told c_ruleFrom c_ruleTo c_code c_eWhat c_eSign m_bank m_rb m_codes m_within m_piled m_unitsInRule m_askStrand m_askTied m_thoughtClaim m_thoughtNeed m_thoughtAll c_roundOf m_acts m_undone m_laid m_firstMove m_seens m_time m_waysNow m_fitting 148 _ from (show okX9 ad m_taped m_size m_faultKind m_faultPlace v233_p_m_at v233_p_m_end v233_s1 m_number v233_p_m_name m_bank m_rb m_codes m_within m_piled m_unitsInRule m_askStrand m_askTied m_thoughtClaim m_thoughtNeed m_thoughtAll m_acts m_undone m_laid m_firstMove m_seens m_time m_waysNow m_fitting 148 _ from ⟨rfl, by omega, by omega, by omega, by omega, by omega, by omega, by omega, by omega, by omega, by omega, by omega, by omega, by omega, by omega, by omega⟩))) hP hD
    refine lv_goto (tgt := 377) hx hb dX9_goOn_236 (by decide) ?_
    exact tV hx hb hr hlk hP hS ⟨trivial, ⟨v233_p_m_at, v233_p_m_end, v233_s1, m_number, v233_p_m_name, hT, by omega, by omega, by omega⟩⟩ dX9_goOn_377
  have j199 : ∀ (f : Nat → va_E) (H : Heap) (locs : List Loc) (ls : Array Slot) (v199_l2 : Int32) (v199_l1 : Int32) (v199_p_m_at : Int32) (v199_p_m_end : Int32) (v199_p_m_name : Int64), (1 ≤ v199_l2.toInt ∧ v199_l2.toInt ≤ 1600) → (97 ≤ v199_l1.toInt ∧ v199_l1.toInt ≤ 122) → (1 ≤ m_size.toInt ∧ m_size.toInt ≤ 1600) → (0 ≤ v199_p_m_at.toInt ∧ v199_p_m_at.toInt ≤ 1599) → (1 ≤ v199_p_m_end.toInt ∧ v199_p_m_end.toInt ≤ 1600) → (v199_p_m_at.toInt < v199_p_m_end.toInt ∧ v199_p_m_end.toInt ≤ m_size.toInt ∧ m_size.toInt ≤ 1600) → (m_end.toInt ≤ v199_p_m_at.toInt) → (TYm ad cy fr0 c_text m_taped m_size m_faultKind m_faultPlace v199_p_m_at v199_p_m_end m_token m_number v199_p_m_name c_points c_strands c_units c_told c_ruleFrom c_ruleTo c_code c_eWhat c_eSign m_bank m_rb m_codes m_within m_piled m_unitsInRule m_askStrand m_askTied m_thoughtClaim m_thoughtNeed m_thoughtAll c_roundOf m_acts m_undone m_laid m_firstMove m_seens m_time m_waysNow m_fitting f) → (va_P D vwCl (wl ad f) H) → (va_D A (wl ad f)) → (va_S A s.heap H locs) → (lv_has ls 3 [(2, .int v199_l2), (1, .int v199_l1), (0, .ref (ad 148))]) → W p l e (rmO 1 22 0 0) s m ([.ref (ad 148)] : List Value).toArray below meth c H locs 0 0 (MQ below (va_Qv (fun (g : Nat → va_E) => True ∧ (∃ (m_at' : Int32) (m_end' : Int32) (m_token' : Int32) (m_number' : Int32) (m_name' : Int64), TYm ad cy fr0 c_text m_taped m_size m_faultKind m_faultPlace m_at' m_end' m_token' m_number' m_name' c_points c_strands c_units c_told c_ruleFrom c_ruleTo c_code c_eWhat c_eSign m_bank m_rb m_codes m_within m_piled m_unitsInRule m_askStrand m_askTied m_thoughtClaim m_thoughtNeed m_thoughtAll c_roundOf m_acts m_undone m_laid m_firstMove m_seens m_time m_waysNow m_fitting g ∧ (0 ≤ m_end'.toInt ∧ m_end'.toInt ≤ 1600) ∧ ((m_token'.toInt = 0 ∧ m_at'.toInt = m_size.toInt ∧ m_end'.toInt = m_size.toInt) ∨ (1 ≤ m_token'.toInt ∧ m_at'.toInt < m_end'.toInt ∧ m_end'.toInt ≤ m_size.toInt)) ∧ m_end.toInt ≤ m_at'.toInt)) (fun g t => PstT D ad g t) A) ([.ref (ad 148)] : List Value).toArray s 0 0 A) (F0 m 199 ls []) := by
    intro f H locs ls v199_l2 v199_l1 v199_p_m_at v199_p_m_end v199_p_m_name hv199_l2 hv199_l1 hv199_p_m_size hv199_p_m_at hv199_p_m_end hJ199_0 hJ199_1 hT hP hD hS hl
    refine lv_aload_n hx hb dX9_goOn_199 rfl (lv_at hl 2 rfl) ?_
    refine lv_aload_n hx hb dX9_goOn_200 rfl (lv_at hl 2 rfl) ?_
    obtain ⟨e163, h148, h149, h150, h151, h152, h153, h154, h155, h156, h157, h158, h159, h160, h161, h162⟩ := (show okX9 ad m_taped m_size m_faultKind m_faultPlace v199_p_m_at v199_p_m_end m_token m_number v199_p_m_name m_bank m_rb m_codes m_within m_piled m_unitsInRule m_askStrand m_askTied m_thoughtClaim m_thoughtNeed m_thoughtAll m_acts m_undone m_laid m_firstMove m_seens m_time m_waysNow m_fitting 148 (f 148) from hT.1 148 (by decide))
    refine va_get (D := D) (cl := vwCl) (ci := 9) (v := .int v199_p_m_end) (C := RX9) (T := TX9) (N := 64) hx hb hts in_X9_goOn_X9 hown hK hP 148 (wl_at (by decide) e163) rfl 7 (by decide) (hts (.fieldLink RX9 171 "EightReasonsModel" "end" "I") (List.mem_of_getElem? (i := 1) rfl)) (fun _ h9 => h9) rfl dX9_goOn_201 ?_
    refine lv_aload_n hx hb dX9_goOn_204 rfl (lv_at hl 2 rfl) ?_
    refine va_get (D := D) (cl := vwCl) (ci := 9) (v := .int v199_p_m_at) (C := RX9) (T := TX9) (N := 64) hx hb hts in_X9_goOn_X9 hown hK hP 148 (wl_at (by decide) e163) rfl 6 (by decide) (hts (.fieldLink RX9 174 "EightReasonsModel" "at" "I") (List.mem_of_getElem? (i := 2) rfl)) (fun _ h9 => h9) rfl dX9_goOn_205 ?_
    refine lv_isub hx hb dX9_goOn_208 ?_
    refine lv_topi (fun x164 ex164 => ?_)
    have hx164 := r_sub ex164 (by omega) (by omega)
    refine lv_bipush (v := 8) hx hb dX9_goOn_209 (by decide) ?_
    have ttl_8 := tl_8
    refine lv_icmp_le (tgt := 218) hx hb dX9_goOn_211 (by decide) (fun c165 => ?_) (fun c165 => ?_)
    · have kc165 := c_le c165
      refine lv_aload_n hx hb dX9_goOn_218 rfl (lv_at hl 2 rfl) ?_
      refine va_get (D := D) (cl := vwCl) (ci := 9) (v := .long v199_p_m_name) (C := RX9) (T := TX9) (N := 64) hx hb hts in_X9_goOn_X9 hown hK hP 148 (wl_at (by decide) e163) rfl 10 (by decide) (hts (.fieldLink RX9 188 "EightReasonsModel" "name" "J") (List.mem_of_getElem? (i := 5) rfl)) (fun _ h9 => h9) rfl dX9_goOn_219 ?_
      refine tSI (As := [.long v199_p_m_name]) (rest := [.ref (ad 148)]) ⟨hx, hb, hml, hown, hts⟩ hK hE hP hD hS hA hAB (s_X9_isKept_0 l B0 adK adV D cy ad f v199_p_m_name _) (va_cwS 1 hts gX9_goOn_X9_isKept rfl rfl rfl (by decide +kernel) ⟨Nat.le_of_ble_eq_true rfl, Nat.le_of_ble_eq_true rfl⟩) rfl hl.1 rfl (Nat.le_of_ble_eq_true rfl) dX9_goOn_222 ⟨Nat.le_of_ble_eq_true rfl, Nat.le_of_ble_eq_true rfl⟩ (fun r g H locs hw hP hD hS => ?_)
      obtain ⟨hrs, rfl⟩ := hw
      obtain ⟨x166, rfl⟩ : ∃ q, q = r := ⟨_, rfl⟩
      rcases hrs with rfl | rfl
      · refine lv_if_eq (tgt := 232) hx hb dX9_goOn_225 (by decide) (fun c => absurd c (by decide)) (fun _ => ?_)
        refine lv_iconst (v := 3) hx hb dX9_goOn_228 (by decide) ?_
        refine lv_goto (tgt := 233) hx hb dX9_goOn_229 (by decide) ?_
        have ttl_3 := tl_3
        exact j233 f H locs ls v199_l2 v199_l1 (3 : Int32) v199_p_m_at v199_p_m_end v199_p_m_name (by omega) (by omega) (by omega) (by omega) (by omega) (by omega) (by omega) (by omega) hT hP hD hS (lv_sub hl [0, 1, 2] rfl)
      · refine lv_if_eq (tgt := 232) hx hb dX9_goOn_225 (by decide) (fun _ => ?_) (fun c => absurd (by decide) c)
        refine lv_iconst (v := 2) hx hb dX9_goOn_232 (by decide) ?_
        have ttl_2 := tl_2
        exact j233 f H locs ls v199_l2 v199_l1 (2 : Int32) v199_p_m_at v199_p_m_end v199_p_m_name (by omega) (by omega) (by omega) (by omega) (by omega) (by omega) (by omega) (by omega) hT hP hD hS (lv_sub hl [0, 1, 2] rfl)
    · have kc165 := c_nle c165
      refine lv_iconst (v := 1) hx hb dX9_goOn_214 (by decide) ?_
      refine lv_goto (tgt := 233) hx hb dX9_goOn_215 (by decide) ?_
      have ttl_1 := tl_1
      exact j233 f H locs ls v199_l2 v199_l1 (1 : Int32) v199_p_m_at v199_p_m_end v199_p_m_name (by omega) (by omega) (by omega) (by omega) (by omega) (by omega) (by omega) (by omega) hT hP hD hS (lv_sub hl [0, 1, 2] rfl)
  have j156 : ∀ (N : Nat) (f : Nat → va_E) (H : Heap) (locs : List Loc) (ls : Array Slot) (v156_l2 : Int32) (v156_l1 : Int32) (v156_p_m_at : Int32) (v156_p_m_end : Int32) (v156_p_m_name : Int64), (1601 - v156_l2.toInt ≤ (N : Int)) → (0 ≤ v156_l2.toInt ∧ v156_l2.toInt ≤ 1600) → (97 ≤ v156_l1.toInt ∧ v156_l1.toInt ≤ 122) → (1 ≤ m_size.toInt ∧ m_size.toInt ≤ 1600) → (0 ≤ v156_p_m_at.toInt ∧ v156_p_m_at.toInt ≤ 1599) → (1 ≤ v156_p_m_end.toInt ∧ v156_p_m_end.toInt ≤ 1600) → (v156_p_m_at.toInt < v156_p_m_end.toInt ∧ v156_p_m_end.toInt ≤ m_size.toInt ∧ m_size.toInt ≤ 1600) → (m_end.toInt ≤ v156_p_m_at.toInt) → (TYm ad cy fr0 c_text m_taped m_size m_faultKind m_faultPlace v156_p_m_at v156_p_m_end m_token m_number v156_p_m_name c_points c_strands c_units c_told c_ruleFrom c_ruleTo c_code c_eWhat c_eSign m_bank m_rb m_codes m_within m_piled m_unitsInRule m_askStrand m_askTied m_thoughtClaim m_thoughtNeed m_thoughtAll c_roundOf m_acts m_undone m_laid m_firstMove m_seens m_time m_waysNow m_fitting f) → (va_P D vwCl (wl ad f) H) → (va_D A (wl ad f)) → (va_S A s.heap H locs) → (lv_has ls 3 [(2, .int v156_l2), (1, .int v156_l1), (0, .ref (ad 148))]) → W p l e (rmO 1 22 0 0) s m ([.ref (ad 148)] : List Value).toArray below meth c H locs 0 0 (MQ below (va_Qv (fun (g : Nat → va_E) => True ∧ (∃ (m_at' : Int32) (m_end' : Int32) (m_token' : Int32) (m_number' : Int32) (m_name' : Int64), TYm ad cy fr0 c_text m_taped m_size m_faultKind m_faultPlace m_at' m_end' m_token' m_number' m_name' c_points c_strands c_units c_told c_ruleFrom c_ruleTo c_code c_eWhat c_eSign m_bank m_rb m_codes m_within m_piled m_unitsInRule m_askStrand m_askTied m_thoughtClaim m_thoughtNeed m_thoughtAll c_roundOf m_acts m_undone m_laid m_firstMove m_seens m_time m_waysNow m_fitting g ∧ (0 ≤ m_end'.toInt ∧ m_end'.toInt ≤ 1600) ∧ ((m_token'.toInt = 0 ∧ m_at'.toInt = m_size.toInt ∧ m_end'.toInt = m_size.toInt) ∨ (1 ≤ m_token'.toInt ∧ m_at'.toInt < m_end'.toInt ∧ m_end'.toInt ≤ m_size.toInt)) ∧ m_end.toInt ≤ m_at'.toInt)) (fun g t => PstT D ad g t) A) ([.ref (ad 148)] : List Value).toArray s 0 0 A) (F0 m 156 ls []) := by
    intro N
    induction N with
    | zero => intro f H locs ls v156_l2 v156_l1 v156_p_m_at v156_p_m_end v156_p_m_name hN hv156_l2 hv156_l1 hv156_p_m_size hv156_p_m_at hv156_p_m_end hJ156_0 hJ156_1 hT hP hD hS hl; exact absurd hN (by omega)
    | succ N ih156 =>
      intro f H locs ls v156_l2 v156_l1 v156_p_m_at v156_p_m_end v156_p_m_name hN hv156_l2 hv156_l1 hv156_p_m_size hv156_p_m_at hv156_p_m_end hJ156_0 hJ156_1 hT hP hD hS hl
      refine lv_iload_n hx hb dX9_goOn_156 rfl (lv_at hl 0 rfl) ?_
      refine lv_aload_n hx hb dX9_goOn_157 rfl (lv_at hl 2 rfl) ?_
      obtain ⟨e182, h167, h168, h169, h170, h171, h172, h173, h174, h175, h176, h177, h178, h179, h180, h181⟩ := (show okX9 ad m_taped m_size m_faultKind m_faultPlace v156_p_m_at v156_p_m_end m_token m_number v156_p_m_name m_bank m_rb m_codes m_within m_piled m_unitsInRule m_askStrand m_askTied m_thoughtClaim m_thoughtNeed m_thoughtAll m_acts m_undone m_laid m_firstMove m_seens m_time m_waysNow m_fitting 148 (f 148) from hT.1 148 (by decide))
      refine va_get (D := D) (cl := vwCl) (ci := 9) (v := .int v156_p_m_end) (C := RX9) (T := TX9) (N := 64) hx hb hts in_X9_goOn_X9 hown hK hP 148 (wl_at (by decide) e182) rfl 7 (by decide) (hts (.fieldLink RX9 171 "EightReasonsModel" "end" "I") (List.mem_of_getElem? (i := 1) rfl)) (fun _ h9 => h9) rfl dX9_goOn_158 ?_
      refine lv_icmp_ge (tgt := 199) hx hb dX9_goOn_161 (by decide) (fun c183 => ?_) (fun c183 => ?_)
      · have kc183 := c_le c183
        exact j199 f H locs ls v156_l2 v156_l1 v156_p_m_at v156_p_m_end v156_p_m_name (by omega) (by omega) (by omega) (by omega) (by omega) (by omega) (by omega) hT hP hD hS (lv_sub hl [0, 1, 2] rfl)
      · have kc183 := c_nle c183
        refine lv_iload_n hx hb dX9_goOn_164 rfl (lv_at hl 0 rfl) ?_
        refine lv_aload_n hx hb dX9_goOn_165 rfl (lv_at hl 2 rfl) ?_
        refine va_get (D := D) (cl := vwCl) (ci := 9) (v := .int v156_p_m_at) (C := RX9) (T := TX9) (N := 64) hx hb hts in_X9_goOn_X9 hown hK hP 148 (wl_at (by decide) e182) rfl 6 (by decide) (hts (.fieldLink RX9 174 "EightReasonsModel" "at" "I") (List.mem_of_getElem? (i := 2) rfl)) (fun _ h9 => h9) rfl dX9_goOn_166 ?_
        refine lv_bipush (v := 8) hx hb dX9_goOn_169 (by decide) ?_
        have ttl_8 := tl_8
        refine lv_iadd hx hb dX9_goOn_171 ?_
        refine lv_topi (fun x184 ex184 => ?_)
        have hx184 := r_add ex184 (by omega) (by omega)
        refine lv_icmp_ge (tgt := 199) hx hb dX9_goOn_172 (by decide) (fun c185 => ?_) (fun c185 => ?_)
        · have kc185 := c_le c185
          exact j199 f H locs ls v156_l2 v156_l1 v156_p_m_at v156_p_m_end v156_p_m_name (by omega) (by omega) (by omega) (by omega) (by omega) (by omega) (by omega) hT hP hD hS (lv_sub hl [0, 1, 2] rfl)
        · have kc185 := c_nle c185
          refine lv_aload_n hx hb dX9_goOn_175 rfl (lv_at hl 2 rfl) ?_
          refine lv_aload_n hx hb dX9_goOn_176 rfl (lv_at hl 2 rfl) ?_
          refine va_get (D := D) (cl := vwCl) (ci := 9) (v := .long v156_p_m_name) (C := RX9) (T := TX9) (N := 64) hx hb hts in_X9_goOn_X9 hown hK hP 148 (wl_at (by decide) e182) rfl 10 (by decide) (hts (.fieldLink RX9 188 "EightReasonsModel" "name" "J") (List.mem_of_getElem? (i := 5) rfl)) (fun _ h9 => h9) rfl dX9_goOn_177 ?_
          refine lv_bipush (v := 8) hx hb dX9_goOn_180 (by decide) ?_
          refine lv_lshl hx hb dX9_goOn_182 rfl ?_
          refine lv_topl (fun y186 _ => ?_)
          refine lv_aload_n hx hb dX9_goOn_183 rfl (lv_at hl 2 rfl) ?_
          refine lv_iload_n hx hb dX9_goOn_184 rfl (lv_at hl 0 rfl) ?_
          refine tVI (As := [.int v156_l2]) (rest := [.long y186, .ref (ad 148)]) (i := 148) ⟨hx, hb, hml, hown, hts⟩ hK hE hP hD hS hA hAB (s_X9_sign_0 l B0 adK adV D cy ad fr0 c_text m_taped m_size m_faultKind m_faultPlace v156_p_m_at v156_p_m_end m_token m_number v156_p_m_name c_points c_strands c_units c_told c_ruleFrom c_ruleTo c_code c_eWhat c_eSign m_bank m_rb m_codes m_within m_piled m_unitsInRule m_askStrand m_askTied m_thoughtClaim m_thoughtNeed m_thoughtAll c_roundOf m_acts m_undone m_laid m_firstMove m_seens m_time m_waysNow m_fitting f hT v156_l2 (by omega) _) (cwV 1 hts gX9_goOn_X9_sign rfl rfl rfl (by decide +kernel) ⟨Nat.le_of_ble_eq_true rfl, Nat.le_of_ble_eq_true rfl⟩) (by decide) 9 e182 rfl rfl hl.1 rfl (Nat.le_of_ble_eq_true rfl) dX9_goOn_185 ⟨Nat.le_of_ble_eq_true rfl, Nat.le_of_ble_eq_true rfl⟩ (fun r g H locs hw hP hD hS => ?_)
          obtain ⟨hrs, rfl⟩ := hw
          obtain ⟨x187, rfl⟩ : ∃ q, q = r := ⟨_, rfl⟩
          rcases hrs with ⟨h188, h189, h190⟩ | ⟨rfl, h191⟩
          · refine lv_i2l hx hb dX9_goOn_188 rfl ?_
            refine lv_topl (fun y192 _ => ?_)
            refine lv_lor hx hb dX9_goOn_189 ?_
            refine lv_topl (fun y193 _ => ?_)
            refine va_put (D := D) (cl := vwCl) (ci := 9) (v := .long y193) (ty := tyX9 10) (C := RX9) (T := TX9) (N := 64) hx hb hts in_X9_goOn_X9 tyX9 tyX9_ok nmX9 hown hK hP hD hS 148 (wl_at (by decide) e182) rfl 10 (by decide) (hts (.fieldLink RX9 188 "EightReasonsModel" "name" "J") (List.mem_of_getElem? (i := 5) rfl)) (fun _ h9 => h9) rfl (tyX9_ok 10 (by decide)) rfl rfl (Nat.le_of_ble_eq_true rfl) dX9_goOn_190 (fun H locs hP hD hS => ?_)
            obtain ⟨f, hT, hP, hD, e194, hj195⟩ := stU (by decide) (TYm.p148 hT (show OKm ad cy c_text m_taped m_size m_faultKind m_faultPlace v156_p_m_at v156_p_m_end m_token m_number y193 c_points c_strands c_units c_told c_ruleFrom c_ruleTo c_code c_eWhat c_eSign m_bank m_rb m_codes m_within m_piled m_unitsInRule m_askStrand m_askTied m_thoughtClaim m_thoughtNeed m_thoughtAll c_roundOf m_acts m_undone m_laid m_firstMove m_seens m_time m_waysNow m_fitting 148 _ from (show okX9 ad m_taped m_size m_faultKind m_faultPlace v156_p_m_at v156_p_m_end m_token m_number y193 m_bank m_rb m_codes m_within m_piled m_unitsInRule m_askStrand m_askTied m_thoughtClaim m_thoughtNeed m_thoughtAll m_acts m_undone m_laid m_firstMove m_seens m_time m_waysNow m_fitting 148 _ from ⟨rfl, by omega, by omega, by omega, by omega, by omega, by omega, by omega, by omega, by omega, by omega, by omega, by omega, by omega, by omega, by omega⟩))) hP hD
            obtain ⟨x196, ex196⟩ : ∃ q : Int32, q = v156_l2 + Int32.ofInt (1) := ⟨_, rfl⟩
            refine lv_iinc (v := x196) (lv' := [(2, .int x196), (1, .int v156_l1), (0, .ref (ad 148))]) hx hb dX9_goOn_193 hl (k := 0) rfl ex196.symm (by decide) rfl (fun ls hl => ?_)
            have hx196 := r_inc ex196 (by decide) (by omega) (by omega)
            refine lv_goto (tgt := 156) hx hb dX9_goOn_196 (by decide) ?_
            exact ih156 f H locs ls x196 v156_l1 v156_p_m_at v156_p_m_end y193 (by omega) (by omega) (by omega) (by omega) (by omega) (by omega) (by omega) (by omega) hT hP hD hS (lv_sub hl [0, 1, 2] rfl)
          · refine lv_i2l hx hb dX9_goOn_188 rfl ?_
            refine lv_topl (fun y197 _ => ?_)
            refine lv_lor hx hb dX9_goOn_189 ?_
            refine lv_topl (fun y198 _ => ?_)
            refine va_put (D := D) (cl := vwCl) (ci := 9) (v := .long y198) (ty := tyX9 10) (C := RX9) (T := TX9) (N := 64) hx hb hts in_X9_goOn_X9 tyX9 tyX9_ok nmX9 hown hK hP hD hS 148 (wl_at (by decide) e182) rfl 10 (by decide) (hts (.fieldLink RX9 188 "EightReasonsModel" "name" "J") (List.mem_of_getElem? (i := 5) rfl)) (fun _ h9 => h9) rfl (tyX9_ok 10 (by decide)) rfl rfl (Nat.le_of_ble_eq_true rfl) dX9_goOn_190 (fun H locs hP hD hS => ?_)
            obtain ⟨f, hT, hP, hD, e199, hj200⟩ := stU (by decide) (TYm.p148 hT (show OKm ad cy c_text m_taped m_size m_faultKind m_faultPlace v156_p_m_at v156_p_m_end m_token m_number y198 c_points c_strands c_units c_told c_ruleFrom c_ruleTo c_code c_eWhat c_eSign m_bank m_rb m_codes m_within m_piled m_unitsInRule m_askStrand m_askTied m_thoughtClaim m_thoughtNeed m_thoughtAll c_roundOf m_acts m_undone m_laid m_firstMove m_seens m_time m_waysNow m_fitting 148 _ from (show okX9 ad m_taped m_size m_faultKind m_faultPlace v156_p_m_at v156_p_m_end m_token m_number y198 m_bank m_rb m_codes m_within m_piled m_unitsInRule m_askStrand m_askTied m_thoughtClaim m_thoughtNeed m_thoughtAll m_acts m_undone m_laid m_firstMove m_seens m_time m_waysNow m_fitting 148 _ from ⟨rfl, by omega, by omega, by omega, by omega, by omega, by omega, by omega, by omega, by omega, by omega, by omega, by omega, by omega, by omega, by omega⟩))) hP hD
            obtain ⟨x201, ex201⟩ : ∃ q : Int32, q = v156_l2 + Int32.ofInt (1) := ⟨_, rfl⟩
            refine lv_iinc (v := x201) (lv' := [(2, .int x201), (1, .int v156_l1), (0, .ref (ad 148))]) hx hb dX9_goOn_193 hl (k := 0) rfl ex201.symm (by decide) rfl (fun ls hl => ?_)
            have hx201 := r_inc ex201 (by decide) (by omega) (by omega)
            refine lv_goto (tgt := 156) hx hb dX9_goOn_196 (by decide) ?_
            exact ih156 f H locs ls x201 v156_l1 v156_p_m_at v156_p_m_end y198 (by omega) (by omega) (by omega) (by omega) (by omega) (by omega) (by omega) (by omega) hT hP hD hS (lv_sub hl [0, 1, 2] rfl)
  have j119 : ∀ (N : Nat) (f : Nat → va_E) (H : Heap) (locs : List Loc) (ls : Array Slot) (v119_l1 : Int32) (v119_p_m_at : Int32) (v119_p_m_end : Int32), (1602 - v119_p_m_end.toInt ≤ (N : Int)) → (97 ≤ v119_l1.toInt ∧ v119_l1.toInt ≤ 122) → (1 ≤ m_size.toInt ∧ m_size.toInt ≤ 1600) → (0 ≤ v119_p_m_at.toInt ∧ v119_p_m_at.toInt ≤ 1599) → (1 ≤ v119_p_m_end.toInt ∧ v119_p_m_end.toInt ≤ 1600) → (v119_p_m_at.toInt < v119_p_m_end.toInt ∧ v119_p_m_end.toInt ≤ m_size.toInt ∧ m_size.toInt ≤ 1600) → (m_end.toInt ≤ v119_p_m_at.toInt) → (TYm ad cy fr0 c_text m_taped m_size m_faultKind m_faultPlace v119_p_m_at v119_p_m_end m_token m_number m_name c_points c_strands c_units c_told c_ruleFrom c_ruleTo c_code c_eWhat c_eSign m_bank m_rb m_codes m_within m_piled m_unitsInRule m_askStrand m_askTied m_thoughtClaim m_thoughtNeed m_thoughtAll c_roundOf m_acts m_undone m_laid m_firstMove m_seens m_time m_waysNow m_fitting f) → (va_P D vwCl (wl ad f) H) → (va_D A (wl ad f)) → (va_S A s.heap H locs) → (lv_has ls 3 [(1, .int v119_l1), (0, .ref (ad 148))]) → W p l e (rmO 1 22 0 0) s m ([.ref (ad 148)] : List Value).toArray below meth c H locs 0 0 (MQ below (va_Qv (fun (g : Nat → va_E) => True ∧ (∃ (m_at' : Int32) (m_end' : Int32) (m_token' : Int32) (m_number' : Int32) (m_name' : Int64), TYm ad cy fr0 c_text m_taped m_size m_faultKind m_faultPlace m_at' m_end' m_token' m_number' m_name' c_points c_strands c_units c_told c_ruleFrom c_ruleTo c_code c_eWhat c_eSign m_bank m_rb m_codes m_within m_piled m_unitsInRule m_askStrand m_askTied m_thoughtClaim m_thoughtNeed m_thoughtAll c_roundOf m_acts m_undone m_laid m_firstMove m_seens m_time m_waysNow m_fitting g ∧ (0 ≤ m_end'.toInt ∧ m_end'.toInt ≤ 1600) ∧ ((m_token'.toInt = 0 ∧ m_at'.toInt = m_size.toInt ∧ m_end'.toInt = m_size.toInt) ∨ (1 ≤ m_token'.toInt ∧ m_at'.toInt < m_end'.toInt ∧ m_end'.toInt ≤ m_size.toInt)) ∧ m_end.toInt ≤ m_at'.toInt)) (fun g t => PstT D ad g t) A) ([.ref (ad 148)] : List Value).toArray s 0 0 A) (F0 m 119 ls []) := by
    intro N
    induction N with
    | zero => intro f H locs ls v119_l1 v119_p_m_at v119_p_m_end hN hv119_l1 hv119_p_m_size hv119_p_m_at hv119_p_m_end hJ119_0 hJ119_1 hT hP hD hS hl; exact absurd hN (by omega)
    | succ N ih119 =>
      intro f H locs ls v119_l1 v119_p_m_at v119_p_m_end hN hv119_l1 hv119_p_m_size hv119_p_m_at hv119_p_m_end hJ119_0 hJ119_1 hT hP hD hS hl
      refine lv_aload_n hx hb dX9_goOn_119 rfl (lv_at hl 1 rfl) ?_
      refine lv_aload_n hx hb dX9_goOn_120 rfl (lv_at hl 1 rfl) ?_
      obtain ⟨e217, h202, h203, h204, h205, h206, h207, h208, h209, h210, h211, h212, h213, h214, h215, h216⟩ := (show okX9 ad m_taped m_size m_faultKind m_faultPlace v119_p_m_at v119_p_m_end m_token m_number m_name m_bank m_rb m_codes m_within m_piled m_unitsInRule m_askStrand m_askTied m_thoughtClaim m_thoughtNeed m_thoughtAll m_acts m_undone m_laid m_firstMove m_seens m_time m_waysNow m_fitting 148 (f 148) from hT.1 148 (by decide))
      refine va_get (D := D) (cl := vwCl) (ci := 9) (v := .int v119_p_m_end) (C := RX9) (T := TX9) (N := 64) hx hb hts in_X9_goOn_X9 hown hK hP 148 (wl_at (by decide) e217) rfl 7 (by decide) (hts (.fieldLink RX9 171 "EightReasonsModel" "end" "I") (List.mem_of_getElem? (i := 1) rfl)) (fun _ h9 => h9) rfl dX9_goOn_121 ?_
      refine tVI (As := [.int v119_p_m_end]) (rest := []) (i := 148) ⟨hx, hb, hml, hown, hts⟩ hK hE hP hD hS hA hAB (s_X9_sign_0 l B0 adK adV D cy ad fr0 c_text m_taped m_size m_faultKind m_faultPlace v119_p_m_at v119_p_m_end m_token m_number m_name c_points c_strands c_units c_told c_ruleFrom c_ruleTo c_code c_eWhat c_eSign m_bank m_rb m_codes m_within m_piled m_unitsInRule m_askStrand m_askTied m_thoughtClaim m_thoughtNeed m_thoughtAll c_roundOf m_acts m_undone m_laid m_firstMove m_seens m_time m_waysNow m_fitting f hT v119_p_m_end (by omega) _) (cwV 1 hts gX9_goOn_X9_sign rfl rfl rfl (by decide +kernel) ⟨Nat.le_of_ble_eq_true rfl, Nat.le_of_ble_eq_true rfl⟩) (by decide) 9 e217 rfl rfl hl.1 rfl (Nat.le_of_ble_eq_true rfl) dX9_goOn_124 ⟨Nat.le_of_ble_eq_true rfl, Nat.le_of_ble_eq_true rfl⟩ (fun r g H locs hw hP hD hS => ?_)
      obtain ⟨hrs, rfl⟩ := hw
      obtain ⟨x218, rfl⟩ : ∃ q, q = r := ⟨_, rfl⟩
      rcases hrs with ⟨h219, h220, h221⟩ | ⟨rfl, h222⟩
      · refine tSI (As := [.int x218]) (rest := []) ⟨hx, hb, hml, hown, hts⟩ hK hE hP hD hS hA hAB (s_X9_isLetter_0 l B0 adK adV D cy ad f x218 _) (va_cwS 1 hts gX9_goOn_X9_isLetter rfl rfl rfl (by decide +kernel) ⟨Nat.le_of_ble_eq_true rfl, Nat.le_of_ble_eq_true rfl⟩) rfl hl.1 rfl (Nat.le_of_ble_eq_true rfl) dX9_goOn_127 ⟨Nat.le_of_ble_eq_true rfl, Nat.le_of_ble_eq_true rfl⟩ (fun r g H locs hw hP hD hS => ?_)
        obtain ⟨hrs, rfl⟩ := hw
        obtain ⟨x223, rfl⟩ : ∃ q, q = r := ⟨_, rfl⟩
        rcases hrs with ⟨rfl, h224, h225⟩ | ⟨rfl, h226⟩
        · refine lv_if_eq (tgt := 146) hx hb dX9_goOn_130 (by decide) (fun c => absurd c (by decide)) (fun _ => ?_)
          refine lv_aload_n hx hb dX9_goOn_133 rfl (lv_at hl 1 rfl) ?_
          refine lv_dup hx hb dX9_goOn_134 rfl ?_
          refine va_get (D := D) (cl := vwCl) (ci := 9) (v := .int v119_p_m_end) (C := RX9) (T := TX9) (N := 64) hx hb hts in_X9_goOn_X9 hown hK hP 148 (wl_at (by decide) e217) rfl 7 (by decide) (hts (.fieldLink RX9 171 "EightReasonsModel" "end" "I") (List.mem_of_getElem? (i := 1) rfl)) (fun _ h9 => h9) rfl dX9_goOn_135 ?_
          refine lv_iconst (v := 1) hx hb dX9_goOn_138 (by decide) ?_
          have ttl_1 := tl_1
          refine lv_iadd hx hb dX9_goOn_139 ?_
          refine lv_topi (fun x227 ex227 => ?_)
          have hx227 := r_add ex227 (by omega) (by omega)
          refine va_put (D := D) (cl := vwCl) (ci := 9) (v := .int x227) (ty := tyX9 7) (C := RX9) (T := TX9) (N := 64) hx hb hts in_X9_goOn_X9 tyX9 tyX9_ok nmX9 hown hK hP hD hS 148 (wl_at (by decide) e217) rfl 7 (by decide) (hts (.fieldLink RX9 171 "EightReasonsModel" "end" "I") (List.mem_of_getElem? (i := 1) rfl)) (fun _ h9 => h9) rfl (tyX9_ok 7 (by decide)) rfl rfl (Nat.le_of_ble_eq_true rfl) dX9_goOn_140 (fun H locs hP hD hS => ?_)
          obtain ⟨f, hT, hP, hD, e228, hj229⟩ := stU (by decide) (TYm.p148 hT (show OKm ad cy c_text m_taped m_size m_faultKind m_faultPlace v119_p_m_at x227 m_token m_number m_name c_points c_strands c_units c_told c_ruleFrom c_ruleTo c_code c_eWhat c_eSign m_bank m_rb m_codes m_within m_piled m_unitsInRule m_askStrand m_askTied m_thoughtClaim m_thoughtNeed m_thoughtAll c_roundOf m_acts m_undone m_laid m_firstMove m_seens m_time m_waysNow m_fitting 148 _ from (show okX9 ad m_taped m_size m_faultKind m_faultPlace v119_p_m_at x227 m_token m_number m_name m_bank m_rb m_codes m_within m_piled m_unitsInRule m_askStrand m_askTied m_thoughtClaim m_thoughtNeed m_thoughtAll m_acts m_undone m_laid m_firstMove m_seens m_time m_waysNow m_fitting 148 _ from ⟨rfl, by omega, by omega, by omega, by omega, by omega, by omega, by omega, by omega, by omega, by omega, by omega, by omega, by omega, by omega, by omega⟩))) hP hD
          refine lv_goto (tgt := 119) hx hb dX9_goOn_143 (by decide) ?_
          exact ih119 f H locs ls v119_l1 v119_p_m_at x227 (by omega) (by omega) (by omega) (by omega) (by omega) (by omega) (by omega) hT hP hD hS (lv_sub hl [0, 1] rfl)
        · refine lv_if_eq (tgt := 146) hx hb dX9_goOn_130 (by decide) (fun _ => ?_) (fun c => absurd (by decide) c)
          refine lv_aload_n hx hb dX9_goOn_146 rfl (lv_at hl 1 rfl) ?_
          have ttlj_0 := tlj_0
          refine lv_lconst (v := 0) hx hb dX9_goOn_147 (by decide) ?_
          refine va_put (D := D) (cl := vwCl) (ci := 9) (v := .long 0) (ty := tyX9 10) (C := RX9) (T := TX9) (N := 64) hx hb hts in_X9_goOn_X9 tyX9 tyX9_ok nmX9 hown hK hP hD hS 148 (wl_at (by decide) e217) rfl 10 (by decide) (hts (.fieldLink RX9 188 "EightReasonsModel" "name" "J") (List.mem_of_getElem? (i := 5) rfl)) (fun _ h9 => h9) rfl (tyX9_ok 10 (by decide)) rfl rfl (Nat.le_of_ble_eq_true rfl) dX9_goOn_148 (fun H locs hP hD hS => ?_)
          obtain ⟨f, hT, hP, hD, e230, hj231⟩ := stU (by decide) (TYm.p148 hT (show OKm ad cy c_text m_taped m_size m_faultKind m_faultPlace v119_p_m_at v119_p_m_end m_token m_number 0 c_points c_strands c_units c_told c_ruleFrom c_ruleTo c_code c_eWhat c_eSign m_bank m_rb m_codes m_within m_piled m_unitsInRule m_askStrand m_askTied m_thoughtClaim m_thoughtNeed m_thoughtAll c_roundOf m_acts m_undone m_laid m_firstMove m_seens m_time m_waysNow m_fitting 148 _ from (show okX9 ad m_taped m_size m_faultKind m_faultPlace v119_p_m_at v119_p_m_end m_token m_number 0 m_bank m_rb m_codes m_within m_piled m_unitsInRule m_askStrand m_askTied m_thoughtClaim m_thoughtNeed m_thoughtAll m_acts m_undone m_laid m_firstMove m_seens m_time m_waysNow m_fitting 148 _ from ⟨rfl, by omega, by omega, by omega, by omega, by omega, by omega, by omega, by omega, by omega, by omega, by omega, by omega, by omega, by omega, by omega⟩))) hP hD
          refine lv_aload_n hx hb dX9_goOn_151 rfl (lv_at hl 1 rfl) ?_
          refine va_get (D := D) (cl := vwCl) (ci := 9) (v := .int v119_p_m_at) (C := RX9) (T := TX9) (N := 64) hx hb hts in_X9_goOn_X9 hown hK hP 148 (wl_at (by decide) e230) rfl 6 (by decide) (hts (.fieldLink RX9 174 "EightReasonsModel" "at" "I") (List.mem_of_getElem? (i := 2) rfl)) (fun _ h9 => h9) rfl dX9_goOn_152 ?_
          refine lv_istore_n (lv' := [(2, .int v119_p_m_at), (1, .int v119_l1), (0, .ref (ad 148))]) hx hb dX9_goOn_155 rfl hl (by decide) rfl (fun ls hl => ?_)
          exact j156 (Int.toNat (1601 - v119_p_m_at.toInt)) f H locs ls v119_p_m_at v119_l1 v119_p_m_at v119_p_m_end (0 : Int64) (by omega) (by omega) (by omega) (by omega) (by omega) (by omega) (by omega) (by omega) hT hP hD hS (lv_sub hl [0, 1, 2] rfl)
      · have ttl_0 := tl_0
        refine tSI (As := [.int 0]) (rest := []) ⟨hx, hb, hml, hown, hts⟩ hK hE hP hD hS hA hAB (s_X9_isLetter_0 l B0 adK adV D cy ad f (0 : Int32) _) (va_cwS 1 hts gX9_goOn_X9_isLetter rfl rfl rfl (by decide +kernel) ⟨Nat.le_of_ble_eq_true rfl, Nat.le_of_ble_eq_true rfl⟩) rfl hl.1 rfl (Nat.le_of_ble_eq_true rfl) dX9_goOn_127 ⟨Nat.le_of_ble_eq_true rfl, Nat.le_of_ble_eq_true rfl⟩ (fun r g H locs hw hP hD hS => ?_)
        obtain ⟨hrs, rfl⟩ := hw
        obtain ⟨x232, rfl⟩ : ∃ q, q = r := ⟨_, rfl⟩
        rcases hrs with ⟨rfl, h233, h234⟩ | ⟨rfl, h235⟩
        · exact False.elim (by omega)
        · refine lv_if_eq (tgt := 146) hx hb dX9_goOn_130 (by decide) (fun _ => ?_) (fun c => absurd (by decide) c)
          refine lv_aload_n hx hb dX9_goOn_146 rfl (lv_at hl 1 rfl) ?_
          have ttlj_0 := tlj_0
          refine lv_lconst (v := 0) hx hb dX9_goOn_147 (by decide) ?_
          refine va_put (D := D) (cl := vwCl) (ci := 9) (v := .long 0) (ty := tyX9 10) (C := RX9) (T := TX9) (N := 64) hx hb hts in_X9_goOn_X9 tyX9 tyX9_ok nmX9 hown hK hP hD hS 148 (wl_at (by decide) e217) rfl 10 (by decide) (hts (.fieldLink RX9 188 "EightReasonsModel" "name" "J") (List.mem_of_getElem? (i := 5) rfl)) (fun _ h9 => h9) rfl (tyX9_ok 10 (by decide)) rfl rfl (Nat.le_of_ble_eq_true rfl) dX9_goOn_148 (fun H locs hP hD hS => ?_)
          obtain ⟨f, hT, hP, hD, e236, hj237⟩ := stU (by decide) (TYm.p148 hT (show OKm ad cy c_text m_taped m_size m_faultKind m_faultPlace v119_p_m_at v119_p_m_end m_token m_number 0 c_points c_strands c_units c_told c_ruleFrom c_ruleTo c_code c_eWhat c_eSign m_bank m_rb m_codes m_within m_piled m_unitsInRule m_askStrand m_askTied m_thoughtClaim m_thoughtNeed m_thoughtAll c_roundOf m_acts m_undone m_laid m_firstMove m_seens m_time m_waysNow m_fitting 148 _ from (show okX9 ad m_taped m_size m_faultKind m_faultPlace v119_p_m_at v119_p_m_end m_token m_number 0 m_bank m_rb m_codes m_within m_piled m_unitsInRule m_askStrand m_askTied m_thoughtClaim m_thoughtNeed m_thoughtAll m_acts m_undone m_laid m_firstMove m_seens m_time m_waysNow m_fitting 148 _ from ⟨rfl, by omega, by omega, by omega, by omega, by omega, by omega, by omega, by omega, by omega, by omega, by omega, by omega, by omega, by omega, by omega⟩))) hP hD
          refine lv_aload_n hx hb dX9_goOn_151 rfl (lv_at hl 1 rfl) ?_
          refine va_get (D := D) (cl := vwCl) (ci := 9) (v := .int v119_p_m_at) (C := RX9) (T := TX9) (N := 64) hx hb hts in_X9_goOn_X9 hown hK hP 148 (wl_at (by decide) e236) rfl 6 (by decide) (hts (.fieldLink RX9 174 "EightReasonsModel" "at" "I") (List.mem_of_getElem? (i := 2) rfl)) (fun _ h9 => h9) rfl dX9_goOn_152 ?_
          refine lv_istore_n (lv' := [(2, .int v119_p_m_at), (1, .int v119_l1), (0, .ref (ad 148))]) hx hb dX9_goOn_155 rfl hl (by decide) rfl (fun ls hl => ?_)
          exact j156 (Int.toNat (1601 - v119_p_m_at.toInt)) f H locs ls v119_p_m_at v119_l1 v119_p_m_at v119_p_m_end (0 : Int64) (by omega) (by omega) (by omega) (by omega) (by omega) (by omega) (by omega) (by omega) hT hP hD hS (lv_sub hl [0, 1, 2] rfl)
  have j58 : ∀ (f : Nat → va_E) (H : Heap) (locs : List Loc) (ls : Array Slot) (v58_p_m_at : Int32), (0 ≤ m_end.toInt ∧ m_end.toInt ≤ 1600) → (0 ≤ v58_p_m_at.toInt ∧ v58_p_m_at.toInt ≤ m_size.toInt ∧ m_size.toInt ≤ 1600) → (m_end.toInt ≤ v58_p_m_at.toInt) → (TYm ad cy fr0 c_text m_taped m_size m_faultKind m_faultPlace v58_p_m_at m_end m_token m_number m_name c_points c_strands c_units c_told c_ruleFrom c_ruleTo c_code c_eWhat c_eSign m_bank m_rb m_codes m_within m_piled m_unitsInRule m_askStrand m_askTied m_thoughtClaim m_thoughtNeed m_thoughtAll c_roundOf m_acts m_undone m_laid m_firstMove m_seens m_time m_waysNow m_fitting f) → (va_P D vwCl (wl ad f) H) → (va_D A (wl ad f)) → (va_S A s.heap H locs) → (lv_has ls 3 [(0, .ref (ad 148))]) → W p l e (rmO 1 22 0 0) s m ([.ref (ad 148)] : List Value).toArray below meth c H locs 0 0 (MQ below (va_Qv (fun (g : Nat → va_E) => True ∧ (∃ (m_at' : Int32) (m_end' : Int32) (m_token' : Int32) (m_number' : Int32) (m_name' : Int64), TYm ad cy fr0 c_text m_taped m_size m_faultKind m_faultPlace m_at' m_end' m_token' m_number' m_name' c_points c_strands c_units c_told c_ruleFrom c_ruleTo c_code c_eWhat c_eSign m_bank m_rb m_codes m_within m_piled m_unitsInRule m_askStrand m_askTied m_thoughtClaim m_thoughtNeed m_thoughtAll c_roundOf m_acts m_undone m_laid m_firstMove m_seens m_time m_waysNow m_fitting g ∧ (0 ≤ m_end'.toInt ∧ m_end'.toInt ≤ 1600) ∧ ((m_token'.toInt = 0 ∧ m_at'.toInt = m_size.toInt ∧ m_end'.toInt = m_size.toInt) ∨ (1 ≤ m_token'.toInt ∧ m_at'.toInt < m_end'.toInt ∧ m_end'.toInt ≤ m_size.toInt)) ∧ m_end.toInt ≤ m_at'.toInt)) (fun g t => PstT D ad g t) A) ([.ref (ad 148)] : List Value).toArray s 0 0 A) (F0 m 58 ls []) := by
    intro f H locs ls v58_p_m_at hv58_p_m_end hJ58_0 hJ58_1 hT hP hD hS hl
    refine lv_aload_n hx hb dX9_goOn_58 rfl (lv_at hl 0 rfl) ?_
    refine lv_aload_n hx hb dX9_goOn_59 rfl (lv_at hl 0 rfl) ?_
    obtain ⟨e253, h238, h239, h240, h241, h242, h243, h244, h245, h246, h247, h248, h249, h250, h251, h252⟩ := (show okX9 ad m_taped m_size m_faultKind m_faultPlace v58_p_m_at m_end m_token m_number m_name m_bank m_rb m_codes m_within m_piled m_unitsInRule m_askStrand m_askTied m_thoughtClaim m_thoughtNeed m_thoughtAll m_acts m_undone m_laid m_firstMove m_seens m_time m_waysNow m_fitting 148 (f 148) from hT.1 148 (by decide))
    refine va_get (D := D) (cl := vwCl) (ci := 9) (v := .int v58_p_m_at) (C := RX9) (T := TX9) (N := 64) hx hb hts in_X9_goOn_X9 hown hK hP 148 (wl_at (by decide) e253) rfl 6 (by decide) (hts (.fieldLink RX9 174 "EightReasonsModel" "at" "I") (List.mem_of_getElem? (i := 2) rfl)) (fun _ h9 => h9) rfl dX9_goOn_60 ?_
    refine tVI (As := [.int v58_p_m_at]) (rest := []) (i := 148) ⟨hx, hb, hml, hown, hts⟩ hK hE hP hD hS hA hAB (s_X9_sign_0 l B0 adK adV D cy ad fr0 c_text m_taped m_size m_faultKind m_faultPlace v58_p_m_at m_end m_token m_number m_name c_points c_strands c_units c_told c_ruleFrom c_ruleTo c_code c_eWhat c_eSign m_bank m_rb m_codes m_within m_piled m_unitsInRule m_askStrand m_askTied m_thoughtClaim m_thoughtNeed m_thoughtAll c_roundOf m_acts m_undone m_laid m_firstMove m_seens m_time m_waysNow m_fitting f hT v58_p_m_at (by omega) _) (cwV 1 hts gX9_goOn_X9_sign rfl rfl rfl (by decide +kernel) ⟨Nat.le_of_ble_eq_true rfl, Nat.le_of_ble_eq_true rfl⟩) (by decide) 9 e253 rfl rfl hl.1 rfl (Nat.le_of_ble_eq_true rfl) dX9_goOn_63 ⟨Nat.le_of_ble_eq_true rfl, Nat.le_of_ble_eq_true rfl⟩ (fun r g H locs hw hP hD hS => ?_)
    obtain ⟨hrs, rfl⟩ := hw
    obtain ⟨x254, rfl⟩ : ∃ q, q = r := ⟨_, rfl⟩
    rcases hrs with ⟨h255, h256, h257⟩ | ⟨rfl, h258⟩
    · refine lv_istore_n (lv' := [(1, .int x254), (0, .ref (ad 148))]) hx hb dX9_goOn_66 rfl hl (by decide) rfl (fun ls hl => ?_)
      refine lv_aload_n hx hb dX9_goOn_67 rfl (lv_at hl 1 rfl) ?_
      refine lv_aload_n hx hb dX9_goOn_68 rfl (lv_at hl 1 rfl) ?_
      refine va_get (D := D) (cl := vwCl) (ci := 9) (v := .int v58_p_m_at) (C := RX9) (T := TX9) (N := 64) hx hb hts in_X9_goOn_X9 hown hK hP 148 (wl_at (by decide) e253) rfl 6 (by decide) (hts (.fieldLink RX9 174 "EightReasonsModel" "at" "I") (List.mem_of_getElem? (i := 2) rfl)) (fun _ h9 => h9) rfl dX9_goOn_69 ?_
      refine lv_iconst (v := 1) hx hb dX9_goOn_72 (by decide) ?_
      have ttl_1 := tl_1
      refine lv_iadd hx hb dX9_goOn_73 ?_
      refine lv_topi (fun x259 ex259 => ?_)
      have hx259 := r_add ex259 (by omega) (by omega)
      refine va_put (D := D) (cl := vwCl) (ci := 9) (v := .int x259) (ty := tyX9 7) (C := RX9) (T := TX9) (N := 64) hx hb hts in_X9_goOn_X9 tyX9 tyX9_ok nmX9 hown hK hP hD hS 148 (wl_at (by decide) e253) rfl 7 (by decide) (hts (.fieldLink RX9 171 "EightReasonsModel" "end" "I") (List.mem_of_getElem? (i := 1) rfl)) (fun _ h9 => h9) rfl (tyX9_ok 7 (by decide)) rfl rfl (Nat.le_of_ble_eq_true rfl) dX9_goOn_74 (fun H locs hP hD hS => ?_)
      obtain ⟨f, hT, hP, hD, e260, hj261⟩ := stU (by decide) (TYm.p148 hT (show OKm ad cy c_text m_taped m_size m_faultKind m_faultPlace v58_p_m_at x259 m_token m_number m_name c_points c_strands c_units c_told c_ruleFrom c_ruleTo c_code c_eWhat c_eSign m_bank m_rb m_codes m_within m_piled m_unitsInRule m_askStrand m_askTied m_thoughtClaim m_thoughtNeed m_thoughtAll c_roundOf m_acts m_undone m_laid m_firstMove m_seens m_time m_waysNow m_fitting 148 _ from (show okX9 ad m_taped m_size m_faultKind m_faultPlace v58_p_m_at x259 m_token m_number m_name m_bank m_rb m_codes m_within m_piled m_unitsInRule m_askStrand m_askTied m_thoughtClaim m_thoughtNeed m_thoughtAll m_acts m_undone m_laid m_firstMove m_seens m_time m_waysNow m_fitting 148 _ from ⟨rfl, by omega, by omega, by omega, by omega, by omega, by omega, by omega, by omega, by omega, by omega, by omega, by omega, by omega, by omega, by omega⟩))) hP hD
      refine lv_aload_n hx hb dX9_goOn_77 rfl (lv_at hl 1 rfl) ?_
      refine va_get (D := D) (cl := vwCl) (ci := 9) (v := .int v58_p_m_at) (C := RX9) (T := TX9) (N := 64) hx hb hts in_X9_goOn_X9 hown hK hP 148 (wl_at (by decide) e260) rfl 6 (by decide) (hts (.fieldLink RX9 174 "EightReasonsModel" "at" "I") (List.mem_of_getElem? (i := 2) rfl)) (fun _ h9 => h9) rfl dX9_goOn_78 ?_
      refine lv_aload_n hx hb dX9_goOn_81 rfl (lv_at hl 1 rfl) ?_
      refine va_get (D := D) (cl := vwCl) (ci := 9) (v := .int m_size) (C := RX9) (T := TX9) (N := 64) hx hb hts in_X9_goOn_X9 hown hK hP 148 (wl_at (by decide) e260) rfl 3 (by decide) (hts (.fieldLink RX9 137 "EightReasonsModel" "size" "I") (List.mem_of_getElem? (i := 3) rfl)) (fun _ h9 => h9) rfl dX9_goOn_82 ?_
      refine lv_icmp_lt (tgt := 112) hx hb dX9_goOn_85 (by decide) (fun c262 => ?_) (fun c262 => ?_)
      · have kc262 := c_lt c262
        have ha263 : 1 ≤ x259.toInt ∧ x259.toInt ≤ 1600 := by omega
        refine lv_iload_n hx hb dX9_goOn_112 rfl (lv_at hl 0 rfl) ?_
        refine tSI (As := [.int x254]) (rest := []) ⟨hx, hb, hml, hown, hts⟩ hK hE hP hD hS hA hAB (s_X9_isLetter_0 l B0 adK adV D cy ad f x254 _) (va_cwS 1 hts gX9_goOn_X9_isLetter rfl rfl rfl (by decide +kernel) ⟨Nat.le_of_ble_eq_true rfl, Nat.le_of_ble_eq_true rfl⟩) rfl hl.1 rfl (Nat.le_of_ble_eq_true rfl) dX9_goOn_113 ⟨Nat.le_of_ble_eq_true rfl, Nat.le_of_ble_eq_true rfl⟩ (fun r g H locs hw hP hD hS => ?_)
        obtain ⟨hrs, rfl⟩ := hw
        obtain ⟨x264, rfl⟩ : ∃ q, q = r := ⟨_, rfl⟩
        rcases hrs with ⟨rfl, h265, h266⟩ | ⟨rfl, h267⟩
        · refine lv_if_eq (tgt := 239) hx hb dX9_goOn_116 (by decide) (fun c => absurd c (by decide)) (fun _ => ?_)
          exact j119 (Int.toNat (1602 - x259.toInt)) f H locs ls x254 v58_p_m_at x259 (by omega) (by omega) (by omega) (by omega) (by omega) (by omega) (by omega) hT hP hD hS (lv_sub hl [0, 1] rfl)
        · refine lv_if_eq (tgt := 239) hx hb dX9_goOn_116 (by decide) (fun _ => ?_) (fun c => absurd (by decide) c)
          refine lv_iload_n hx hb dX9_goOn_239 rfl (lv_at hl 0 rfl) ?_
          refine tSI (As := [.int x254]) (rest := []) ⟨hx, hb, hml, hown, hts⟩ hK hE hP hD hS hA hAB (s_X9_isDigit_0 l B0 adK adV D cy ad f x254 (by omega) _) (va_cwS 1 hts gX9_goOn_X9_isDigit rfl rfl rfl (by decide +kernel) ⟨Nat.le_of_ble_eq_true rfl, Nat.le_of_ble_eq_true rfl⟩) rfl hl.1 rfl (Nat.le_of_ble_eq_true rfl) dX9_goOn_240 ⟨Nat.le_of_ble_eq_true rfl, Nat.le_of_ble_eq_true rfl⟩ (fun r g H locs hw hP hD hS => ?_)
          obtain ⟨hrs, rfl⟩ := hw
          obtain ⟨x268, rfl⟩ : ∃ q, q = r := ⟨_, rfl⟩
          rcases hrs with ⟨rfl, h269, h270⟩ | ⟨rfl, h271⟩
          · refine lv_if_eq (tgt := 361) hx hb dX9_goOn_243 (by decide) (fun c => absurd c (by decide)) (fun _ => ?_)
            refine lv_aload_n hx hb dX9_goOn_246 rfl (lv_at hl 1 rfl) ?_
            refine lv_iconst (v := 0) hx hb dX9_goOn_247 (by decide) ?_
            refine va_put (D := D) (cl := vwCl) (ci := 9) (v := .int 0) (ty := tyX9 9) (C := RX9) (T := TX9) (N := 64) hx hb hts in_X9_goOn_X9 tyX9 tyX9_ok nmX9 hown hK hP hD hS 148 (wl_at (by decide) e260) rfl 9 (by decide) (hts (.fieldLink RX9 199 "EightReasonsModel" "number" "I") (List.mem_of_getElem? (i := 6) rfl)) (fun _ h9 => h9) rfl (tyX9_ok 9 (by decide)) rfl rfl (Nat.le_of_ble_eq_true rfl) dX9_goOn_248 (fun H locs hP hD hS => ?_)
            obtain ⟨f, hT, hP, hD, e272, hj273⟩ := stU (by decide) (TYm.p148 hT (show OKm ad cy c_text m_taped m_size m_faultKind m_faultPlace v58_p_m_at x259 m_token 0 m_name c_points c_strands c_units c_told c_ruleFrom c_ruleTo c_code c_eWhat c_eSign m_bank m_rb m_codes m_within m_piled m_unitsInRule m_askStrand m_askTied m_thoughtClaim m_thoughtNeed m_thoughtAll c_roundOf m_acts m_undone m_laid m_firstMove m_seens m_time m_waysNow m_fitting 148 _ from (show okX9 ad m_taped m_size m_faultKind m_faultPlace v58_p_m_at x259 m_token 0 m_name m_bank m_rb m_codes m_within m_piled m_unitsInRule m_askStrand m_askTied m_thoughtClaim m_thoughtNeed m_thoughtAll m_acts m_undone m_laid m_firstMove m_seens m_time m_waysNow m_fitting 148 _ from ⟨rfl, by omega, by omega, by omega, by omega, by omega, by omega, by omega, by omega, by omega, by omega, by omega, by omega, by omega, by omega, by omega⟩))) hP hD
            refine lv_aload_n hx hb dX9_goOn_251 rfl (lv_at hl 1 rfl) ?_
            refine lv_aload_n hx hb dX9_goOn_252 rfl (lv_at hl 1 rfl) ?_
            refine va_get (D := D) (cl := vwCl) (ci := 9) (v := .int v58_p_m_at) (C := RX9) (T := TX9) (N := 64) hx hb hts in_X9_goOn_X9 hown hK hP 148 (wl_at (by decide) e272) rfl 6 (by decide) (hts (.fieldLink RX9 174 "EightReasonsModel" "at" "I") (List.mem_of_getElem? (i := 2) rfl)) (fun _ h9 => h9) rfl dX9_goOn_253 ?_
            refine va_put (D := D) (cl := vwCl) (ci := 9) (v := .int v58_p_m_at) (ty := tyX9 7) (C := RX9) (T := TX9) (N := 64) hx hb hts in_X9_goOn_X9 tyX9 tyX9_ok nmX9 hown hK hP hD hS 148 (wl_at (by decide) e272) rfl 7 (by decide) (hts (.fieldLink RX9 171 "EightReasonsModel" "end" "I") (List.mem_of_getElem? (i := 1) rfl)) (fun _ h9 => h9) rfl (tyX9_ok 7 (by decide)) rfl rfl (Nat.le_of_ble_eq_true rfl) dX9_goOn_256 (fun H locs hP hD hS => ?_)
            obtain ⟨f, hT, hP, hD, e274, hj275⟩ := stU (by decide) (TYm.p148 hT (show OKm ad cy c_text m_taped m_size m_faultKind m_faultPlace v58_p_m_at v58_p_m_at m_token 0 m_name c_points c_strands c_units c_told c_ruleFrom c_ruleTo c_code c_eWhat c_eSign m_bank m_rb m_codes m_within m_piled m_unitsInRule m_askStrand m_askTied m_thoughtClaim m_thoughtNeed m_thoughtAll c_roundOf m_acts m_undone m_laid m_firstMove m_seens m_time m_waysNow m_fitting 148 _ from (show okX9 ad m_taped m_size m_faultKind m_faultPlace v58_p_m_at v58_p_m_at m_token 0 m_name m_bank m_rb m_codes m_within m_piled m_unitsInRule m_askStrand m_askTied m_thoughtClaim m_thoughtNeed m_thoughtAll m_acts m_undone m_laid m_firstMove m_seens m_time m_waysNow m_fitting 148 _ from ⟨rfl, by omega, by omega, by omega, by omega, by omega, by omega, by omega, by omega, by omega, by omega, by omega, by omega, by omega, by omega, by omega⟩))) hP hD
            have ttl_0 := tl_0
            exact j259 (Int.toNat (1602 - v58_p_m_at.toInt)) f H locs ls x254 v58_p_m_at v58_p_m_at (0 : Int32) (by omega) (by omega) (by omega) (by omega) (by omega) (by omega) (by omega) (by omega) (by omega) hT hP hD hS (lv_sub hl [0, 1] rfl)
          · refine lv_if_eq (tgt := 361) hx hb dX9_goOn_243 (by decide) (fun _ => ?_) (fun c => absurd (by decide) c)
            refine lv_aload_n hx hb dX9_goOn_361 rfl (lv_at hl 1 rfl) ?_
            refine lv_iload_n hx hb dX9_goOn_362 rfl (lv_at hl 0 rfl) ?_
            refine tSI (As := [.int x254]) (rest := [.ref (ad 148)]) ⟨hx, hb, hml, hown, hts⟩ hK hE hP hD hS hA hAB (s_X9_isSign_0 l B0 adK adV D cy ad f x254 (by omega) _) (va_cwS 1 hts gX9_goOn_X9_isSign rfl rfl rfl (by decide +kernel) ⟨Nat.le_of_ble_eq_true rfl, Nat.le_of_ble_eq_true rfl⟩) rfl hl.1 rfl (Nat.le_of_ble_eq_true rfl) dX9_goOn_363 ⟨Nat.le_of_ble_eq_true rfl, Nat.le_of_ble_eq_true rfl⟩ (fun r g H locs hw hP hD hS => ?_)
            obtain ⟨hrs, rfl⟩ := hw
            obtain ⟨x276, rfl⟩ : ∃ q, q = r := ⟨_, rfl⟩
            rcases hrs with rfl | rfl
            · refine lv_if_eq (tgt := 373) hx hb dX9_goOn_366 (by decide) (fun c => absurd c (by decide)) (fun _ => ?_)
              refine lv_iconst (v := 5) hx hb dX9_goOn_369 (by decide) ?_
              refine lv_goto (tgt := 374) hx hb dX9_goOn_370 (by decide) ?_
              refine va_put (D := D) (cl := vwCl) (ci := 9) (v := .int 5) (ty := tyX9 8) (C := RX9) (T := TX9) (N := 64) hx hb hts in_X9_goOn_X9 tyX9 tyX9_ok nmX9 hown hK hP hD hS 148 (wl_at (by decide) e260) rfl 8 (by decide) (hts (.fieldLink RX9 181 "EightReasonsModel" "token" "I") (List.mem_of_getElem? (i := 4) rfl)) (fun _ h9 => h9) rfl (tyX9_ok 8 (by decide)) rfl rfl (Nat.le_of_ble_eq_true rfl) dX9_goOn_374 (fun H locs hP hD hS => ?_)
              have ttl_5 := tl_5
              obtain ⟨f, hT, hP, hD, e277, hj278⟩ := stU (by decide) (TYm.p148 hT (show OKm ad cy c_text m_taped m_size m_faultKind m_faultPlace v58_p_m_at x259 5 m_number m_name c_points c_strands c_units c_told c_ruleFrom c_ruleTo c_code c_eWhat c_eSign m_bank m_rb m_codes m_within m_piled m_unitsInRule m_askStrand m_askTied m_thoughtClaim m_thoughtNeed m_thoughtAll c_roundOf m_acts m_undone m_laid m_firstMove m_seens m_time m_waysNow m_fitting 148 _ from (show okX9 ad m_taped m_size m_faultKind m_faultPlace v58_p_m_at x259 5 m_number m_name m_bank m_rb m_codes m_within m_piled m_unitsInRule m_askStrand m_askTied m_thoughtClaim m_thoughtNeed m_thoughtAll m_acts m_undone m_laid m_firstMove m_seens m_time m_waysNow m_fitting 148 _ from ⟨rfl, by omega, by omega, by omega, by omega, by omega, by omega, by omega, by omega, by omega, by omega, by omega, by omega, by omega, by omega, by omega⟩))) hP hD
              exact tV hx hb hr hlk hP hS ⟨trivial, ⟨v58_p_m_at, x259, (5 : Int32), m_number, m_name, hT, by omega, by omega, by omega⟩⟩ dX9_goOn_377
            · refine lv_if_eq (tgt := 373) hx hb dX9_goOn_366 (by decide) (fun _ => ?_) (fun c => absurd (by decide) c)
              refine lv_iconst (v := 1) hx hb dX9_goOn_373 (by decide) ?_
              refine va_put (D := D) (cl := vwCl) (ci := 9) (v := .int 1) (ty := tyX9 8) (C := RX9) (T := TX9) (N := 64) hx hb hts in_X9_goOn_X9 tyX9 tyX9_ok nmX9 hown hK hP hD hS 148 (wl_at (by decide) e260) rfl 8 (by decide) (hts (.fieldLink RX9 181 "EightReasonsModel" "token" "I") (List.mem_of_getElem? (i := 4) rfl)) (fun _ h9 => h9) rfl (tyX9_ok 8 (by decide)) rfl rfl (Nat.le_of_ble_eq_true rfl) dX9_goOn_374 (fun H locs hP hD hS => ?_)
              obtain ⟨f, hT, hP, hD, e279, hj280⟩ := stU (by decide) (TYm.p148 hT (show OKm ad cy c_text m_taped m_size m_faultKind m_faultPlace v58_p_m_at x259 1 m_number m_name c_points c_strands c_units c_told c_ruleFrom c_ruleTo c_code c_eWhat c_eSign m_bank m_rb m_codes m_within m_piled m_unitsInRule m_askStrand m_askTied m_thoughtClaim m_thoughtNeed m_thoughtAll c_roundOf m_acts m_undone m_laid m_firstMove m_seens m_time m_waysNow m_fitting 148 _ from (show okX9 ad m_taped m_size m_faultKind m_faultPlace v58_p_m_at x259 1 m_number m_name m_bank m_rb m_codes m_within m_piled m_unitsInRule m_askStrand m_askTied m_thoughtClaim m_thoughtNeed m_thoughtAll m_acts m_undone m_laid m_firstMove m_seens m_time m_waysNow m_fitting 148 _ from ⟨rfl, by omega, by omega, by omega, by omega, by omega, by omega, by omega, by omega, by omega, by omega, by omega, by omega, by omega, by omega, by omega⟩))) hP hD
              exact tV hx hb hr hlk hP hS ⟨trivial, ⟨v58_p_m_at, x259, (1 : Int32), m_number, m_name, hT, by omega, by omega, by omega⟩⟩ dX9_goOn_377
      · have kc262 := c_nlt c262
        refine lv_aload_n hx hb dX9_goOn_88 rfl (lv_at hl 1 rfl) ?_
        refine lv_iconst (v := 0) hx hb dX9_goOn_89 (by decide) ?_
        refine va_put (D := D) (cl := vwCl) (ci := 9) (v := .int 0) (ty := tyX9 8) (C := RX9) (T := TX9) (N := 64) hx hb hts in_X9_goOn_X9 tyX9 tyX9_ok nmX9 hown hK hP hD hS 148 (wl_at (by decide) e260) rfl 8 (by decide) (hts (.fieldLink RX9 181 "EightReasonsModel" "token" "I") (List.mem_of_getElem? (i := 4) rfl)) (fun _ h9 => h9) rfl (tyX9_ok 8 (by decide)) rfl rfl (Nat.le_of_ble_eq_true rfl) dX9_goOn_90 (fun H locs hP hD hS => ?_)
        have ttl_0 := tl_0
        obtain ⟨f, hT, hP, hD, e281, hj282⟩ := stU (by decide) (TYm.p148 hT (show OKm ad cy c_text m_taped m_size m_faultKind m_faultPlace v58_p_m_at x259 0 m_number m_name c_points c_strands c_units c_told c_ruleFrom c_ruleTo c_code c_eWhat c_eSign m_bank m_rb m_codes m_within m_piled m_unitsInRule m_askStrand m_askTied m_thoughtClaim m_thoughtNeed m_thoughtAll c_roundOf m_acts m_undone m_laid m_firstMove m_seens m_time m_waysNow m_fitting 148 _ from (show okX9 ad m_taped m_size m_faultKind m_faultPlace v58_p_m_at x259 0 m_number m_name m_bank m_rb m_codes m_within m_piled m_unitsInRule m_askStrand m_askTied m_thoughtClaim m_thoughtNeed m_thoughtAll m_acts m_undone m_laid m_firstMove m_seens m_time m_waysNow m_fitting 148 _ from ⟨rfl, by omega, by omega, by omega, by omega, by omega, by omega, by omega, by omega, by omega, by omega, by omega, by omega, by omega, by omega, by omega⟩))) hP hD
        refine lv_aload_n hx hb dX9_goOn_93 rfl (lv_at hl 1 rfl) ?_
        refine lv_aload_n hx hb dX9_goOn_94 rfl (lv_at hl 1 rfl) ?_
        refine va_get (D := D) (cl := vwCl) (ci := 9) (v := .int m_size) (C := RX9) (T := TX9) (N := 64) hx hb hts in_X9_goOn_X9 hown hK hP 148 (wl_at (by decide) e281) rfl 3 (by decide) (hts (.fieldLink RX9 137 "EightReasonsModel" "size" "I") (List.mem_of_getElem? (i := 3) rfl)) (fun _ h9 => h9) rfl dX9_goOn_95 ?_
        refine va_put (D := D) (cl := vwCl) (ci := 9) (v := .int m_size) (ty := tyX9 6) (C := RX9) (T := TX9) (N := 64) hx hb hts in_X9_goOn_X9 tyX9 tyX9_ok nmX9 hown hK hP hD hS 148 (wl_at (by decide) e281) rfl 6 (by decide) (hts (.fieldLink RX9 174 "EightReasonsModel" "at" "I") (List.mem_of_getElem? (i := 2) rfl)) (fun _ h9 => h9) rfl (tyX9_ok 6 (by decide)) rfl rfl (Nat.le_of_ble_eq_true rfl) dX9_goOn_98 (fun H locs hP hD hS => ?_)
        obtain ⟨f, hT, hP, hD, e283, hj284⟩ := stU (by decide) (TYm.p148 hT (show OKm ad cy c_text m_taped m_size m_faultKind m_faultPlace m_size x259 0 m_number m_name c_points c_strands c_units c_told c_ruleFrom c_ruleTo c_code c_eWhat c_eSign m_bank m_rb m_codes m_within m_piled m_unitsInRule m_askStrand m_askTied m_thoughtClaim m_thoughtNeed m_thoughtAll c_roundOf m_acts m_undone m_laid m_firstMove m_seens m_time m_waysNow m_fitting 148 _ from (show okX9 ad m_taped m_size m_faultKind m_faultPlace m_size x259 0 m_number m_name m_bank m_rb m_codes m_within m_piled m_unitsInRule m_askStrand m_askTied m_thoughtClaim m_thoughtNeed m_thoughtAll m_acts m_undone m_laid m_firstMove m_seens m_time m_waysNow m_fitting 148 _ from ⟨rfl, by omega, by omega, by omega, by omega, by omega, by omega, by omega, by omega, by omega, by omega, by omega, by omega, by omega, by omega, by omega⟩))) hP hD
        refine lv_aload_n hx hb dX9_goOn_101 rfl (lv_at hl 1 rfl) ?_
        refine lv_aload_n hx hb dX9_goOn_102 rfl (lv_at hl 1 rfl) ?_
        refine va_get (D := D) (cl := vwCl) (ci := 9) (v := .int m_size) (C := RX9) (T := TX9) (N := 64) hx hb hts in_X9_goOn_X9 hown hK hP 148 (wl_at (by decide) e283) rfl 3 (by decide) (hts (.fieldLink RX9 137 "EightReasonsModel" "size" "I") (List.mem_of_getElem? (i := 3) rfl)) (fun _ h9 => h9) rfl dX9_goOn_103 ?_
        refine va_put (D := D) (cl := vwCl) (ci := 9) (v := .int m_size) (ty := tyX9 7) (C := RX9) (T := TX9) (N := 64) hx hb hts in_X9_goOn_X9 tyX9 tyX9_ok nmX9 hown hK hP hD hS 148 (wl_at (by decide) e283) rfl 7 (by decide) (hts (.fieldLink RX9 171 "EightReasonsModel" "end" "I") (List.mem_of_getElem? (i := 1) rfl)) (fun _ h9 => h9) rfl (tyX9_ok 7 (by decide)) rfl rfl (Nat.le_of_ble_eq_true rfl) dX9_goOn_106 (fun H locs hP hD hS => ?_)
        obtain ⟨f, hT, hP, hD, e285, hj286⟩ := stU (by decide) (TYm.p148 hT (show OKm ad cy c_text m_taped m_size m_faultKind m_faultPlace m_size m_size 0 m_number m_name c_points c_strands c_units c_told c_ruleFrom c_ruleTo c_code c_eWhat c_eSign m_bank m_rb m_codes m_within m_piled m_unitsInRule m_askStrand m_askTied m_thoughtClaim m_thoughtNeed m_thoughtAll c_roundOf m_acts m_undone m_laid m_firstMove m_seens m_time m_waysNow m_fitting 148 _ from (show okX9 ad m_taped m_size m_faultKind m_faultPlace m_size m_size 0 m_number m_name m_bank m_rb m_codes m_within m_piled m_unitsInRule m_askStrand m_askTied m_thoughtClaim m_thoughtNeed m_thoughtAll m_acts m_undone m_laid m_firstMove m_seens m_time m_waysNow m_fitting 148 _ from ⟨rfl, by omega, by omega, by omega, by omega, by omega, by omega, by omega, by omega, by omega, by omega, by omega, by omega, by omega, by omega, by omega⟩))) hP hD
        refine lv_goto (tgt := 377) hx hb dX9_goOn_109 (by decide) ?_
        exact tV hx hb hr hlk hP hS ⟨trivial, ⟨m_size, m_size, (0 : Int32), m_number, m_name, hT, by omega, by omega, by omega⟩⟩ dX9_goOn_377
    · refine lv_istore_n (lv' := [(1, .int 0), (0, .ref (ad 148))]) hx hb dX9_goOn_66 rfl hl (by decide) rfl (fun ls hl => ?_)
      refine lv_aload_n hx hb dX9_goOn_67 rfl (lv_at hl 1 rfl) ?_
      refine lv_aload_n hx hb dX9_goOn_68 rfl (lv_at hl 1 rfl) ?_
      refine va_get (D := D) (cl := vwCl) (ci := 9) (v := .int v58_p_m_at) (C := RX9) (T := TX9) (N := 64) hx hb hts in_X9_goOn_X9 hown hK hP 148 (wl_at (by decide) e253) rfl 6 (by decide) (hts (.fieldLink RX9 174 "EightReasonsModel" "at" "I") (List.mem_of_getElem? (i := 2) rfl)) (fun _ h9 => h9) rfl dX9_goOn_69 ?_
      refine lv_iconst (v := 1) hx hb dX9_goOn_72 (by decide) ?_
      have ttl_1 := tl_1
      refine lv_iadd hx hb dX9_goOn_73 ?_
      refine lv_topi (fun x287 ex287 => ?_)
      have hx287 := r_add ex287 (by omega) (by omega)
      refine va_put (D := D) (cl := vwCl) (ci := 9) (v := .int x287) (ty := tyX9 7) (C := RX9) (T := TX9) (N := 64) hx hb hts in_X9_goOn_X9 tyX9 tyX9_ok nmX9 hown hK hP hD hS 148 (wl_at (by decide) e253) rfl 7 (by decide) (hts (.fieldLink RX9 171 "EightReasonsModel" "end" "I") (List.mem_of_getElem? (i := 1) rfl)) (fun _ h9 => h9) rfl (tyX9_ok 7 (by decide)) rfl rfl (Nat.le_of_ble_eq_true rfl) dX9_goOn_74 (fun H locs hP hD hS => ?_)
      obtain ⟨f, hT, hP, hD, e288, hj289⟩ := stU (by decide) (TYm.p148 hT (show OKm ad cy c_text m_taped m_size m_faultKind m_faultPlace v58_p_m_at x287 m_token m_number m_name c_points c_strands c_units c_told c_ruleFrom c_ruleTo c_code c_eWhat c_eSign m_bank m_rb m_codes m_within m_piled m_unitsInRule m_askStrand m_askTied m_thoughtClaim m_thoughtNeed m_thoughtAll c_roundOf m_acts m_undone m_laid m_firstMove m_seens m_time m_waysNow m_fitting 148 _ from (show okX9 ad m_taped m_size m_faultKind m_faultPlace v58_p_m_at x287 m_token m_number m_name m_bank m_rb m_codes m_within m_piled m_unitsInRule m_askStrand m_askTied m_thoughtClaim m_thoughtNeed m_thoughtAll m_acts m_undone m_laid m_firstMove m_seens m_time m_waysNow m_fitting 148 _ from ⟨rfl, by omega, by omega, by omega, by omega, by omega, by omega, by omega, by omega, by omega, by omega, by omega, by omega, by omega, by omega, by omega⟩))) hP hD
      refine lv_aload_n hx hb dX9_goOn_77 rfl (lv_at hl 1 rfl) ?_
      refine va_get (D := D) (cl := vwCl) (ci := 9) (v := .int v58_p_m_at) (C := RX9) (T := TX9) (N := 64) hx hb hts in_X9_goOn_X9 hown hK hP 148 (wl_at (by decide) e288) rfl 6 (by decide) (hts (.fieldLink RX9 174 "EightReasonsModel" "at" "I") (List.mem_of_getElem? (i := 2) rfl)) (fun _ h9 => h9) rfl dX9_goOn_78 ?_
      refine lv_aload_n hx hb dX9_goOn_81 rfl (lv_at hl 1 rfl) ?_
      refine va_get (D := D) (cl := vwCl) (ci := 9) (v := .int m_size) (C := RX9) (T := TX9) (N := 64) hx hb hts in_X9_goOn_X9 hown hK hP 148 (wl_at (by decide) e288) rfl 3 (by decide) (hts (.fieldLink RX9 137 "EightReasonsModel" "size" "I") (List.mem_of_getElem? (i := 3) rfl)) (fun _ h9 => h9) rfl dX9_goOn_82 ?_
      refine lv_icmp_lt (tgt := 112) hx hb dX9_goOn_85 (by decide) (fun c290 => ?_) (fun c290 => ?_)
      · have kc290 := c_lt c290
        have ha291 : 1 ≤ x287.toInt ∧ x287.toInt ≤ 1600 := by omega
        refine lv_iload_n hx hb dX9_goOn_112 rfl (lv_at hl 0 rfl) ?_
        have ttl_0 := tl_0
        refine tSI (As := [.int 0]) (rest := []) ⟨hx, hb, hml, hown, hts⟩ hK hE hP hD hS hA hAB (s_X9_isLetter_0 l B0 adK adV D cy ad f (0 : Int32) _) (va_cwS 1 hts gX9_goOn_X9_isLetter rfl rfl rfl (by decide +kernel) ⟨Nat.le_of_ble_eq_true rfl, Nat.le_of_ble_eq_true rfl⟩) rfl hl.1 rfl (Nat.le_of_ble_eq_true rfl) dX9_goOn_113 ⟨Nat.le_of_ble_eq_true rfl, Nat.le_of_ble_eq_true rfl⟩ (fun r g H locs hw hP hD hS => ?_)
        obtain ⟨hrs, rfl⟩ := hw
        obtain ⟨x292, rfl⟩ : ∃ q, q = r := ⟨_, rfl⟩
        rcases hrs with ⟨rfl, h293, h294⟩ | ⟨rfl, h295⟩
        · exact False.elim (by omega)
        · refine lv_if_eq (tgt := 239) hx hb dX9_goOn_116 (by decide) (fun _ => ?_) (fun c => absurd (by decide) c)
          refine lv_iload_n hx hb dX9_goOn_239 rfl (lv_at hl 0 rfl) ?_
          refine tSI (As := [.int 0]) (rest := []) ⟨hx, hb, hml, hown, hts⟩ hK hE hP hD hS hA hAB (s_X9_isDigit_0 l B0 adK adV D cy ad f (0 : Int32) (by omega) _) (va_cwS 1 hts gX9_goOn_X9_isDigit rfl rfl rfl (by decide +kernel) ⟨Nat.le_of_ble_eq_true rfl, Nat.le_of_ble_eq_true rfl⟩) rfl hl.1 rfl (Nat.le_of_ble_eq_true rfl) dX9_goOn_240 ⟨Nat.le_of_ble_eq_true rfl, Nat.le_of_ble_eq_true rfl⟩ (fun r g H locs hw hP hD hS => ?_)
          obtain ⟨hrs, rfl⟩ := hw
          obtain ⟨x296, rfl⟩ : ∃ q, q = r := ⟨_, rfl⟩
          rcases hrs with ⟨rfl, h297, h298⟩ | ⟨rfl, h299⟩
          · exact False.elim (by omega)
          · refine lv_if_eq (tgt := 361) hx hb dX9_goOn_243 (by decide) (fun _ => ?_) (fun c => absurd (by decide) c)
            refine lv_aload_n hx hb dX9_goOn_361 rfl (lv_at hl 1 rfl) ?_
            refine lv_iload_n hx hb dX9_goOn_362 rfl (lv_at hl 0 rfl) ?_
            refine tSI (As := [.int 0]) (rest := [.ref (ad 148)]) ⟨hx, hb, hml, hown, hts⟩ hK hE hP hD hS hA hAB (s_X9_isSign_0 l B0 adK adV D cy ad f (0 : Int32) (by omega) _) (va_cwS 1 hts gX9_goOn_X9_isSign rfl rfl rfl (by decide +kernel) ⟨Nat.le_of_ble_eq_true rfl, Nat.le_of_ble_eq_true rfl⟩) rfl hl.1 rfl (Nat.le_of_ble_eq_true rfl) dX9_goOn_363 ⟨Nat.le_of_ble_eq_true rfl, Nat.le_of_ble_eq_true rfl⟩ (fun r g H locs hw hP hD hS => ?_)
            obtain ⟨hrs, rfl⟩ := hw
            obtain ⟨x300, rfl⟩ : ∃ q, q = r := ⟨_, rfl⟩
            rcases hrs with rfl | rfl
            · refine lv_if_eq (tgt := 373) hx hb dX9_goOn_366 (by decide) (fun c => absurd c (by decide)) (fun _ => ?_)
              refine lv_iconst (v := 5) hx hb dX9_goOn_369 (by decide) ?_
              refine lv_goto (tgt := 374) hx hb dX9_goOn_370 (by decide) ?_
              refine va_put (D := D) (cl := vwCl) (ci := 9) (v := .int 5) (ty := tyX9 8) (C := RX9) (T := TX9) (N := 64) hx hb hts in_X9_goOn_X9 tyX9 tyX9_ok nmX9 hown hK hP hD hS 148 (wl_at (by decide) e288) rfl 8 (by decide) (hts (.fieldLink RX9 181 "EightReasonsModel" "token" "I") (List.mem_of_getElem? (i := 4) rfl)) (fun _ h9 => h9) rfl (tyX9_ok 8 (by decide)) rfl rfl (Nat.le_of_ble_eq_true rfl) dX9_goOn_374 (fun H locs hP hD hS => ?_)
              have ttl_5 := tl_5
              obtain ⟨f, hT, hP, hD, e301, hj302⟩ := stU (by decide) (TYm.p148 hT (show OKm ad cy c_text m_taped m_size m_faultKind m_faultPlace v58_p_m_at x287 5 m_number m_name c_points c_strands c_units c_told c_ruleFrom c_ruleTo c_code c_eWhat c_eSign m_bank m_rb m_codes m_within m_piled m_unitsInRule m_askStrand m_askTied m_thoughtClaim m_thoughtNeed m_thoughtAll c_roundOf m_acts m_undone m_laid m_firstMove m_seens m_time m_waysNow m_fitting 148 _ from (show okX9 ad m_taped m_size m_faultKind m_faultPlace v58_p_m_at x287 5 m_number m_name m_bank m_rb m_codes m_within m_piled m_unitsInRule m_askStrand m_askTied m_thoughtClaim m_thoughtNeed m_thoughtAll m_acts m_undone m_laid m_firstMove m_seens m_time m_waysNow m_fitting 148 _ from ⟨rfl, by omega, by omega, by omega, by omega, by omega, by omega, by omega, by omega, by omega, by omega, by omega, by omega, by omega, by omega, by omega⟩))) hP hD
              exact tV hx hb hr hlk hP hS ⟨trivial, ⟨v58_p_m_at, x287, (5 : Int32), m_number, m_name, hT, by omega, by omega, by omega⟩⟩ dX9_goOn_377
            · refine lv_if_eq (tgt := 373) hx hb dX9_goOn_366 (by decide) (fun _ => ?_) (fun c => absurd (by decide) c)
              refine lv_iconst (v := 1) hx hb dX9_goOn_373 (by decide) ?_
              refine va_put (D := D) (cl := vwCl) (ci := 9) (v := .int 1) (ty := tyX9 8) (C := RX9) (T := TX9) (N := 64) hx hb hts in_X9_goOn_X9 tyX9 tyX9_ok nmX9 hown hK hP hD hS 148 (wl_at (by decide) e288) rfl 8 (by decide) (hts (.fieldLink RX9 181 "EightReasonsModel" "token" "I") (List.mem_of_getElem? (i := 4) rfl)) (fun _ h9 => h9) rfl (tyX9_ok 8 (by decide)) rfl rfl (Nat.le_of_ble_eq_true rfl) dX9_goOn_374 (fun H locs hP hD hS => ?_)
              obtain ⟨f, hT, hP, hD, e303, hj304⟩ := stU (by decide) (TYm.p148 hT (show OKm ad cy c_text m_taped m_size m_faultKind m_faultPlace v58_p_m_at x287 1 m_number m_name c_points c_strands c_units c_told c_ruleFrom c_ruleTo c_code c_eWhat c_eSign m_bank m_rb m_codes m_within m_piled m_unitsInRule m_askStrand m_askTied m_thoughtClaim m_thoughtNeed m_thoughtAll c_roundOf m_acts m_undone m_laid m_firstMove m_seens m_time m_waysNow m_fitting 148 _ from (show okX9 ad m_taped m_size m_faultKind m_faultPlace v58_p_m_at x287 1 m_number m_name m_bank m_rb m_codes m_within m_piled m_unitsInRule m_askStrand m_askTied m_thoughtClaim m_thoughtNeed m_thoughtAll m_acts m_undone m_laid m_firstMove m_seens m_time m_waysNow m_fitting 148 _ from ⟨rfl, by omega, by omega, by omega, by omega, by omega, by omega, by omega, by omega, by omega, by omega, by omega, by omega, by omega, by omega, by omega⟩))) hP hD
              exact tV hx hb hr hlk hP hS ⟨trivial, ⟨v58_p_m_at, x287, (1 : Int32), m_number, m_name, hT, by omega, by omega, by omega⟩⟩ dX9_goOn_377
      · have kc290 := c_nlt c290
        refine lv_aload_n hx hb dX9_goOn_88 rfl (lv_at hl 1 rfl) ?_
        refine lv_iconst (v := 0) hx hb dX9_goOn_89 (by decide) ?_
        refine va_put (D := D) (cl := vwCl) (ci := 9) (v := .int 0) (ty := tyX9 8) (C := RX9) (T := TX9) (N := 64) hx hb hts in_X9_goOn_X9 tyX9 tyX9_ok nmX9 hown hK hP hD hS 148 (wl_at (by decide) e288) rfl 8 (by decide) (hts (.fieldLink RX9 181 "EightReasonsModel" "token" "I") (List.mem_of_getElem? (i := 4) rfl)) (fun _ h9 => h9) rfl (tyX9_ok 8 (by decide)) rfl rfl (Nat.le_of_ble_eq_true rfl) dX9_goOn_90 (fun H locs hP hD hS => ?_)
        have ttl_0 := tl_0
        obtain ⟨f, hT, hP, hD, e305, hj306⟩ := stU (by decide) (TYm.p148 hT (show OKm ad cy c_text m_taped m_size m_faultKind m_faultPlace v58_p_m_at x287 0 m_number m_name c_points c_strands c_units c_told c_ruleFrom c_ruleTo c_code c_eWhat c_eSign m_bank m_rb m_codes m_within m_piled m_unitsInRule m_askStrand m_askTied m_thoughtClaim m_thoughtNeed m_thoughtAll c_roundOf m_acts m_undone m_laid m_firstMove m_seens m_time m_waysNow m_fitting 148 _ from (show okX9 ad m_taped m_size m_faultKind m_faultPlace v58_p_m_at x287 0 m_number m_name m_bank m_rb m_codes m_within m_piled m_unitsInRule m_askStrand m_askTied m_thoughtClaim m_thoughtNeed m_thoughtAll m_acts m_undone m_laid m_firstMove m_seens m_time m_waysNow m_fitting 148 _ from ⟨rfl, by omega, by omega, by omega, by omega, by omega, by omega, by omega, by omega, by omega, by omega, by omega, by omega, by omega, by omega, by omega⟩))) hP hD
        refine lv_aload_n hx hb dX9_goOn_93 rfl (lv_at hl 1 rfl) ?_
        refine lv_aload_n hx hb dX9_goOn_94 rfl (lv_at hl 1 rfl) ?_
        refine va_get (D := D) (cl := vwCl) (ci := 9) (v := .int m_size) (C := RX9) (T := TX9) (N := 64) hx hb hts in_X9_goOn_X9 hown hK hP 148 (wl_at (by decide) e305) rfl 3 (by decide) (hts (.fieldLink RX9 137 "EightReasonsModel" "size" "I") (List.mem_of_getElem? (i := 3) rfl)) (fun _ h9 => h9) rfl dX9_goOn_95 ?_
        refine va_put (D := D) (cl := vwCl) (ci := 9) (v := .int m_size) (ty := tyX9 6) (C := RX9) (T := TX9) (N := 64) hx hb hts in_X9_goOn_X9 tyX9 tyX9_ok nmX9 hown hK hP hD hS 148 (wl_at (by decide) e305) rfl 6 (by decide) (hts (.fieldLink RX9 174 "EightReasonsModel" "at" "I") (List.mem_of_getElem? (i := 2) rfl)) (fun _ h9 => h9) rfl (tyX9_ok 6 (by decide)) rfl rfl (Nat.le_of_ble_eq_true rfl) dX9_goOn_98 (fun H locs hP hD hS => ?_)
        obtain ⟨f, hT, hP, hD, e307, hj308⟩ := stU (by decide) (TYm.p148 hT (show OKm ad cy c_text m_taped m_size m_faultKind m_faultPlace m_size x287 0 m_number m_name c_points c_strands c_units c_told c_ruleFrom c_ruleTo c_code c_eWhat c_eSign m_bank m_rb m_codes m_within m_piled m_unitsInRule m_askStrand m_askTied m_thoughtClaim m_thoughtNeed m_thoughtAll c_roundOf m_acts m_undone m_laid m_firstMove m_seens m_time m_waysNow m_fitting 148 _ from (show okX9 ad m_taped m_size m_faultKind m_faultPlace m_size x287 0 m_number m_name m_bank m_rb m_codes m_within m_piled m_unitsInRule m_askStrand m_askTied m_thoughtClaim m_thoughtNeed m_thoughtAll m_acts m_undone m_laid m_firstMove m_seens m_time m_waysNow m_fitting 148 _ from ⟨rfl, by omega, by omega, by omega, by omega, by omega, by omega, by omega, by omega, by omega, by omega, by omega, by omega, by omega, by omega, by omega⟩))) hP hD
        refine lv_aload_n hx hb dX9_goOn_101 rfl (lv_at hl 1 rfl) ?_
        refine lv_aload_n hx hb dX9_goOn_102 rfl (lv_at hl 1 rfl) ?_
        refine va_get (D := D) (cl := vwCl) (ci := 9) (v := .int m_size) (C := RX9) (T := TX9) (N := 64) hx hb hts in_X9_goOn_X9 hown hK hP 148 (wl_at (by decide) e307) rfl 3 (by decide) (hts (.fieldLink RX9 137 "EightReasonsModel" "size" "I") (List.mem_of_getElem? (i := 3) rfl)) (fun _ h9 => h9) rfl dX9_goOn_103 ?_
        refine va_put (D := D) (cl := vwCl) (ci := 9) (v := .int m_size) (ty := tyX9 7) (C := RX9) (T := TX9) (N := 64) hx hb hts in_X9_goOn_X9 tyX9 tyX9_ok nmX9 hown hK hP hD hS 148 (wl_at (by decide) e307) rfl 7 (by decide) (hts (.fieldLink RX9 171 "EightReasonsModel" "end" "I") (List.mem_of_getElem? (i := 1) rfl)) (fun _ h9 => h9) rfl (tyX9_ok 7 (by decide)) rfl rfl (Nat.le_of_ble_eq_true rfl) dX9_goOn_106 (fun H locs hP hD hS => ?_)
        obtain ⟨f, hT, hP, hD, e309, hj310⟩ := stU (by decide) (TYm.p148 hT (show OKm ad cy c_text m_taped m_size m_faultKind m_faultPlace m_size m_size 0 m_number m_name c_points c_strands c_units c_told c_ruleFrom c_ruleTo c_code c_eWhat c_eSign m_bank m_rb m_codes m_within m_piled m_unitsInRule m_askStrand m_askTied m_thoughtClaim m_thoughtNeed m_thoughtAll c_roundOf m_acts m_undone m_laid m_firstMove m_seens m_time m_waysNow m_fitting 148 _ from (show okX9 ad m_taped m_size m_faultKind m_faultPlace m_size m_size 0 m_number m_name m_bank m_rb m_codes m_within m_piled m_unitsInRule m_askStrand m_askTied m_thoughtClaim m_thoughtNeed m_thoughtAll m_acts m_undone m_laid m_firstMove m_seens m_time m_waysNow m_fitting 148 _ from ⟨rfl, by omega, by omega, by omega, by omega, by omega, by omega, by omega, by omega, by omega, by omega, by omega, by omega, by omega, by omega, by omega⟩))) hP hD
        refine lv_goto (tgt := 377) hx hb dX9_goOn_109 (by decide) ?_
        exact tV hx hb hr hlk hP hS ⟨trivial, ⟨m_size, m_size, (0 : Int32), m_number, m_name, hT, by omega, by omega, by omega⟩⟩ dX9_goOn_377
  have j8 : ∀ (N : Nat) (f : Nat → va_E) (H : Heap) (locs : List Loc) (ls : Array Slot) (v8_p_m_at : Int32), (1601 - v8_p_m_at.toInt ≤ (N : Int)) → (0 ≤ m_end.toInt ∧ m_end.toInt ≤ 1600) → (0 ≤ v8_p_m_at.toInt ∧ v8_p_m_at.toInt ≤ m_size.toInt ∧ m_size.toInt ≤ 1600) → (m_end.toInt ≤ v8_p_m_at.toInt) → (TYm ad cy fr0 c_text m_taped m_size m_faultKind m_faultPlace v8_p_m_at m_end m_token m_number m_name c_points c_strands c_units c_told c_ruleFrom c_ruleTo c_code c_eWhat c_eSign m_bank m_rb m_codes m_within m_piled m_unitsInRule m_askStrand m_askTied m_thoughtClaim m_thoughtNeed m_thoughtAll c_roundOf m_acts m_undone m_laid m_firstMove m_seens m_time m_waysNow m_fitting f) → (va_P D vwCl (wl ad f) H) → (va_D A (wl ad f)) → (va_S A s.heap H locs) → (lv_has ls 3 [(0, .ref (ad 148))]) → W p l e (rmO 1 22 0 0) s m ([.ref (ad 148)] : List Value).toArray below meth c H locs 0 0 (MQ below (va_Qv (fun (g : Nat → va_E) => True ∧ (∃ (m_at' : Int32) (m_end' : Int32) (m_token' : Int32) (m_number' : Int32) (m_name' : Int64), TYm ad cy fr0 c_text m_taped m_size m_faultKind m_faultPlace m_at' m_end' m_token' m_number' m_name' c_points c_strands c_units c_told c_ruleFrom c_ruleTo c_code c_eWhat c_eSign m_bank m_rb m_codes m_within m_piled m_unitsInRule m_askStrand m_askTied m_thoughtClaim m_thoughtNeed m_thoughtAll c_roundOf m_acts m_undone m_laid m_firstMove m_seens m_time m_waysNow m_fitting g ∧ (0 ≤ m_end'.toInt ∧ m_end'.toInt ≤ 1600) ∧ ((m_token'.toInt = 0 ∧ m_at'.toInt = m_size.toInt ∧ m_end'.toInt = m_size.toInt) ∨ (1 ≤ m_token'.toInt ∧ m_at'.toInt < m_end'.toInt ∧ m_end'.toInt ≤ m_size.toInt)) ∧ m_end.toInt ≤ m_at'.toInt)) (fun g t => PstT D ad g t) A) ([.ref (ad 148)] : List Value).toArray s 0 0 A) (F0 m 8 ls []) := by
    intro N
    induction N with
    | zero => intro f H locs ls v8_p_m_at hN hv8_p_m_end hJ8_0 hJ8_1 hT hP hD hS hl; exact absurd hN (by omega)
    | succ N ih8 =>
      intro f H locs ls v8_p_m_at hN hv8_p_m_end hJ8_0 hJ8_1 hT hP hD hS hl
      have j45 : ∀ (f : Nat → va_E) (H : Heap) (locs : List Loc) (ls : Array Slot), (1 ≤ m_size.toInt ∧ m_size.toInt ≤ 1600) → (0 ≤ v8_p_m_at.toInt ∧ v8_p_m_at.toInt ≤ 1599) → (0 ≤ m_end.toInt ∧ m_end.toInt ≤ 1600) → (v8_p_m_at.toInt < m_size.toInt ∧ m_size.toInt ≤ 1600) → (m_end.toInt ≤ v8_p_m_at.toInt) → (TYm ad cy fr0 c_text m_taped m_size m_faultKind m_faultPlace v8_p_m_at m_end m_token m_number m_name c_points c_strands c_units c_told c_ruleFrom c_ruleTo c_code c_eWhat c_eSign m_bank m_rb m_codes m_within m_piled m_unitsInRule m_askStrand m_askTied m_thoughtClaim m_thoughtNeed m_thoughtAll c_roundOf m_acts m_undone m_laid m_firstMove m_seens m_time m_waysNow m_fitting f) → (va_P D vwCl (wl ad f) H) → (va_D A (wl ad f)) → (va_S A s.heap H locs) → (lv_has ls 3 [(0, .ref (ad 148))]) → W p l e (rmO 1 22 0 0) s m ([.ref (ad 148)] : List Value).toArray below meth c H locs 0 0 (MQ below (va_Qv (fun (g : Nat → va_E) => True ∧ (∃ (m_at' : Int32) (m_end' : Int32) (m_token' : Int32) (m_number' : Int32) (m_name' : Int64), TYm ad cy fr0 c_text m_taped m_size m_faultKind m_faultPlace m_at' m_end' m_token' m_number' m_name' c_points c_strands c_units c_told c_ruleFrom c_ruleTo c_code c_eWhat c_eSign m_bank m_rb m_codes m_within m_piled m_unitsInRule m_askStrand m_askTied m_thoughtClaim m_thoughtNeed m_thoughtAll c_roundOf m_acts m_undone m_laid m_firstMove m_seens m_time m_waysNow m_fitting g ∧ (0 ≤ m_end'.toInt ∧ m_end'.toInt ≤ 1600) ∧ ((m_token'.toInt = 0 ∧ m_at'.toInt = m_size.toInt ∧ m_end'.toInt = m_size.toInt) ∨ (1 ≤ m_token'.toInt ∧ m_at'.toInt < m_end'.toInt ∧ m_end'.toInt ≤ m_size.toInt)) ∧ m_end.toInt ≤ m_at'.toInt)) (fun g t => PstT D ad g t) A) ([.ref (ad 148)] : List Value).toArray s 0 0 A) (F0 m 45 ls []) := by
        intro f H locs ls hv45_p_m_size hv45_p_m_at hv45_p_m_end hJ45_0 hJ45_1 hT hP hD hS hl
        refine lv_aload_n hx hb dX9_goOn_45 rfl (lv_at hl 0 rfl) ?_
        refine lv_dup hx hb dX9_goOn_46 rfl ?_
        obtain ⟨e326, h311, h312, h313, h314, h315, h316, h317, h318, h319, h320, h321, h322, h323, h324, h325⟩ := (show okX9 ad m_taped m_size m_faultKind m_faultPlace v8_p_m_at m_end m_token m_number m_name m_bank m_rb m_codes m_within m_piled m_unitsInRule m_askStrand m_askTied m_thoughtClaim m_thoughtNeed m_thoughtAll m_acts m_undone m_laid m_firstMove m_seens m_time m_waysNow m_fitting 148 (f 148) from hT.1 148 (by decide))
        refine va_get (D := D) (cl := vwCl) (ci := 9) (v := .int v8_p_m_at) (C := RX9) (T := TX9) (N := 64) hx hb hts in_X9_goOn_X9 hown hK hP 148 (wl_at (by decide) e326) rfl 6 (by decide) (hts (.fieldLink RX9 174 "EightReasonsModel" "at" "I") (List.mem_of_getElem? (i := 2) rfl)) (fun _ h9 => h9) rfl dX9_goOn_47 ?_
        refine lv_iconst (v := 1) hx hb dX9_goOn_50 (by decide) ?_
        have ttl_1 := tl_1
        refine lv_iadd hx hb dX9_goOn_51 ?_
        refine lv_topi (fun x327 ex327 => ?_)
        have hx327 := r_add ex327 (by omega) (by omega)
        refine va_put (D := D) (cl := vwCl) (ci := 9) (v := .int x327) (ty := tyX9 6) (C := RX9) (T := TX9) (N := 64) hx hb hts in_X9_goOn_X9 tyX9 tyX9_ok nmX9 hown hK hP hD hS 148 (wl_at (by decide) e326) rfl 6 (by decide) (hts (.fieldLink RX9 174 "EightReasonsModel" "at" "I") (List.mem_of_getElem? (i := 2) rfl)) (fun _ h9 => h9) rfl (tyX9_ok 6 (by decide)) rfl rfl (Nat.le_of_ble_eq_true rfl) dX9_goOn_52 (fun H locs hP hD hS => ?_)
        obtain ⟨f, hT, hP, hD, e328, hj329⟩ := stU (by decide) (TYm.p148 hT (show OKm ad cy c_text m_taped m_size m_faultKind m_faultPlace x327 m_end m_token m_number m_name c_points c_strands c_units c_told c_ruleFrom c_ruleTo c_code c_eWhat c_eSign m_bank m_rb m_codes m_within m_piled m_unitsInRule m_askStrand m_askTied m_thoughtClaim m_thoughtNeed m_thoughtAll c_roundOf m_acts m_undone m_laid m_firstMove m_seens m_time m_waysNow m_fitting 148 _ from (show okX9 ad m_taped m_size m_faultKind m_faultPlace x327 m_end m_token m_number m_name m_bank m_rb m_codes m_within m_piled m_unitsInRule m_askStrand m_askTied m_thoughtClaim m_thoughtNeed m_thoughtAll m_acts m_undone m_laid m_firstMove m_seens m_time m_waysNow m_fitting 148 _ from ⟨rfl, by omega, by omega, by omega, by omega, by omega, by omega, by omega, by omega, by omega, by omega, by omega, by omega, by omega, by omega, by omega⟩))) hP hD
        refine lv_goto (tgt := 8) hx hb dX9_goOn_55 (by decide) ?_
        exact ih8 f H locs ls x327 (by omega) (by omega) (by omega) (by omega) hT hP hD hS (lv_sub hl [0] rfl)
      refine lv_aload_n hx hb dX9_goOn_8 rfl (lv_at hl 0 rfl) ?_
      obtain ⟨e345, h330, h331, h332, h333, h334, h335, h336, h337, h338, h339, h340, h341, h342, h343, h344⟩ := (show okX9 ad m_taped m_size m_faultKind m_faultPlace v8_p_m_at m_end m_token m_number m_name m_bank m_rb m_codes m_within m_piled m_unitsInRule m_askStrand m_askTied m_thoughtClaim m_thoughtNeed m_thoughtAll m_acts m_undone m_laid m_firstMove m_seens m_time m_waysNow m_fitting 148 (f 148) from hT.1 148 (by decide))
      refine va_get (D := D) (cl := vwCl) (ci := 9) (v := .int v8_p_m_at) (C := RX9) (T := TX9) (N := 64) hx hb hts in_X9_goOn_X9 hown hK hP 148 (wl_at (by decide) e345) rfl 6 (by decide) (hts (.fieldLink RX9 174 "EightReasonsModel" "at" "I") (List.mem_of_getElem? (i := 2) rfl)) (fun _ h9 => h9) rfl dX9_goOn_9 ?_
      refine lv_aload_n hx hb dX9_goOn_12 rfl (lv_at hl 0 rfl) ?_
      refine va_get (D := D) (cl := vwCl) (ci := 9) (v := .int m_size) (C := RX9) (T := TX9) (N := 64) hx hb hts in_X9_goOn_X9 hown hK hP 148 (wl_at (by decide) e345) rfl 3 (by decide) (hts (.fieldLink RX9 137 "EightReasonsModel" "size" "I") (List.mem_of_getElem? (i := 3) rfl)) (fun _ h9 => h9) rfl dX9_goOn_13 ?_
      refine lv_icmp_ge (tgt := 58) hx hb dX9_goOn_16 (by decide) (fun c346 => ?_) (fun c346 => ?_)
      · have kc346 := c_le c346
        exact j58 f H locs ls v8_p_m_at (by omega) (by omega) (by omega) hT hP hD hS (lv_sub hl [0] rfl)
      · have kc346 := c_nle c346
        refine lv_aload_n hx hb dX9_goOn_19 rfl (lv_at hl 0 rfl) ?_
        refine lv_aload_n hx hb dX9_goOn_20 rfl (lv_at hl 0 rfl) ?_
        refine va_get (D := D) (cl := vwCl) (ci := 9) (v := .int v8_p_m_at) (C := RX9) (T := TX9) (N := 64) hx hb hts in_X9_goOn_X9 hown hK hP 148 (wl_at (by decide) e345) rfl 6 (by decide) (hts (.fieldLink RX9 174 "EightReasonsModel" "at" "I") (List.mem_of_getElem? (i := 2) rfl)) (fun _ h9 => h9) rfl dX9_goOn_21 ?_
        refine tVI (As := [.int v8_p_m_at]) (rest := []) (i := 148) ⟨hx, hb, hml, hown, hts⟩ hK hE hP hD hS hA hAB (s_X9_sign_0 l B0 adK adV D cy ad fr0 c_text m_taped m_size m_faultKind m_faultPlace v8_p_m_at m_end m_token m_number m_name c_points c_strands c_units c_told c_ruleFrom c_ruleTo c_code c_eWhat c_eSign m_bank m_rb m_codes m_within m_piled m_unitsInRule m_askStrand m_askTied m_thoughtClaim m_thoughtNeed m_thoughtAll c_roundOf m_acts m_undone m_laid m_firstMove m_seens m_time m_waysNow m_fitting f hT v8_p_m_at (by omega) _) (cwV 1 hts gX9_goOn_X9_sign rfl rfl rfl (by decide +kernel) ⟨Nat.le_of_ble_eq_true rfl, Nat.le_of_ble_eq_true rfl⟩) (by decide) 9 e345 rfl rfl hl.1 rfl (Nat.le_of_ble_eq_true rfl) dX9_goOn_24 ⟨Nat.le_of_ble_eq_true rfl, Nat.le_of_ble_eq_true rfl⟩ (fun r g H locs hw hP hD hS => ?_)
        obtain ⟨hrs, rfl⟩ := hw
        obtain ⟨x347, rfl⟩ : ∃ q, q = r := ⟨_, rfl⟩
        rcases hrs with ⟨h348, h349, h350⟩ | ⟨rfl, h351⟩
        · refine lv_bipush (v := 32) hx hb dX9_goOn_27 (by decide) ?_
          have ttl_32 := tl_32
          refine lv_icmp_eq (tgt := 45) hx hb dX9_goOn_29 (by decide) (fun c352 => ?_) (fun c352 => ?_)
          · have kc352 := c_eq c352
            exact j45 f H locs ls (by omega) (by omega) (by omega) (by omega) (by omega) hT hP hD hS (lv_sub hl [0] rfl)
          · have kc352 := c_ne c352
            refine lv_aload_n hx hb dX9_goOn_32 rfl (lv_at hl 0 rfl) ?_
            refine lv_aload_n hx hb dX9_goOn_33 rfl (lv_at hl 0 rfl) ?_
            refine va_get (D := D) (cl := vwCl) (ci := 9) (v := .int v8_p_m_at) (C := RX9) (T := TX9) (N := 64) hx hb hts in_X9_goOn_X9 hown hK hP 148 (wl_at (by decide) e345) rfl 6 (by decide) (hts (.fieldLink RX9 174 "EightReasonsModel" "at" "I") (List.mem_of_getElem? (i := 2) rfl)) (fun _ h9 => h9) rfl dX9_goOn_34 ?_
            refine tVI (As := [.int v8_p_m_at]) (rest := []) (i := 148) ⟨hx, hb, hml, hown, hts⟩ hK hE hP hD hS hA hAB (s_X9_sign_0 l B0 adK adV D cy ad fr0 c_text m_taped m_size m_faultKind m_faultPlace v8_p_m_at m_end m_token m_number m_name c_points c_strands c_units c_told c_ruleFrom c_ruleTo c_code c_eWhat c_eSign m_bank m_rb m_codes m_within m_piled m_unitsInRule m_askStrand m_askTied m_thoughtClaim m_thoughtNeed m_thoughtAll c_roundOf m_acts m_undone m_laid m_firstMove m_seens m_time m_waysNow m_fitting f hT v8_p_m_at (by omega) _) (cwV 1 hts gX9_goOn_X9_sign rfl rfl rfl (by decide +kernel) ⟨Nat.le_of_ble_eq_true rfl, Nat.le_of_ble_eq_true rfl⟩) (by decide) 9 e345 rfl rfl hl.1 rfl (Nat.le_of_ble_eq_true rfl) dX9_goOn_37 ⟨Nat.le_of_ble_eq_true rfl, Nat.le_of_ble_eq_true rfl⟩ (fun r g H locs hw hP hD hS => ?_)
            obtain ⟨hrs, rfl⟩ := hw
            obtain ⟨x353, rfl⟩ : ∃ q, q = r := ⟨_, rfl⟩
            rcases hrs with ⟨h354, h355, h356⟩ | ⟨rfl, h357⟩
            · refine lv_bipush (v := 10) hx hb dX9_goOn_40 (by decide) ?_
              have ttl_10 := tl_10
              refine lv_icmp_ne (tgt := 58) hx hb dX9_goOn_42 (by decide) (fun c358 => ?_) (fun c358 => ?_)
              · have kc358 := c_ne c358
                exact j58 f H locs ls v8_p_m_at (by omega) (by omega) (by omega) hT hP hD hS (lv_sub hl [0] rfl)
              · have kc358 := c_eq c358
                exact j45 f H locs ls (by omega) (by omega) (by omega) (by omega) (by omega) hT hP hD hS (lv_sub hl [0] rfl)
            · refine lv_bipush (v := 10) hx hb dX9_goOn_40 (by decide) ?_
              refine lv_icmp_ne (tgt := 58) hx hb dX9_goOn_42 (by decide) (fun _ => ?_) (fun c => absurd c (by decide))
              exact j58 f H locs ls v8_p_m_at (by omega) (by omega) (by omega) hT hP hD hS (lv_sub hl [0] rfl)
        · refine lv_bipush (v := 32) hx hb dX9_goOn_27 (by decide) ?_
          refine lv_icmp_eq (tgt := 45) hx hb dX9_goOn_29 (by decide) (fun c => absurd c (by decide)) (fun _ => ?_)
          refine lv_aload_n hx hb dX9_goOn_32 rfl (lv_at hl 0 rfl) ?_
          refine lv_aload_n hx hb dX9_goOn_33 rfl (lv_at hl 0 rfl) ?_
          refine va_get (D := D) (cl := vwCl) (ci := 9) (v := .int v8_p_m_at) (C := RX9) (T := TX9) (N := 64) hx hb hts in_X9_goOn_X9 hown hK hP 148 (wl_at (by decide) e345) rfl 6 (by decide) (hts (.fieldLink RX9 174 "EightReasonsModel" "at" "I") (List.mem_of_getElem? (i := 2) rfl)) (fun _ h9 => h9) rfl dX9_goOn_34 ?_
          refine tVI (As := [.int v8_p_m_at]) (rest := []) (i := 148) ⟨hx, hb, hml, hown, hts⟩ hK hE hP hD hS hA hAB (s_X9_sign_0 l B0 adK adV D cy ad fr0 c_text m_taped m_size m_faultKind m_faultPlace v8_p_m_at m_end m_token m_number m_name c_points c_strands c_units c_told c_ruleFrom c_ruleTo c_code c_eWhat c_eSign m_bank m_rb m_codes m_within m_piled m_unitsInRule m_askStrand m_askTied m_thoughtClaim m_thoughtNeed m_thoughtAll c_roundOf m_acts m_undone m_laid m_firstMove m_seens m_time m_waysNow m_fitting f hT v8_p_m_at (by omega) _) (cwV 1 hts gX9_goOn_X9_sign rfl rfl rfl (by decide +kernel) ⟨Nat.le_of_ble_eq_true rfl, Nat.le_of_ble_eq_true rfl⟩) (by decide) 9 e345 rfl rfl hl.1 rfl (Nat.le_of_ble_eq_true rfl) dX9_goOn_37 ⟨Nat.le_of_ble_eq_true rfl, Nat.le_of_ble_eq_true rfl⟩ (fun r g H locs hw hP hD hS => ?_)
          obtain ⟨hrs, rfl⟩ := hw
          obtain ⟨x359, rfl⟩ : ∃ q, q = r := ⟨_, rfl⟩
          rcases hrs with ⟨h360, h361, h362⟩ | ⟨rfl, h363⟩
          · refine lv_bipush (v := 10) hx hb dX9_goOn_40 (by decide) ?_
            have ttl_10 := tl_10
            refine lv_icmp_ne (tgt := 58) hx hb dX9_goOn_42 (by decide) (fun c364 => ?_) (fun c364 => ?_)
            · have kc364 := c_ne c364
              exact j58 f H locs ls v8_p_m_at (by omega) (by omega) (by omega) hT hP hD hS (lv_sub hl [0] rfl)
            · have kc364 := c_eq c364
              exact j45 f H locs ls (by omega) (by omega) (by omega) (by omega) (by omega) hT hP hD hS (lv_sub hl [0] rfl)
          · refine lv_bipush (v := 10) hx hb dX9_goOn_40 (by decide) ?_
            refine lv_icmp_ne (tgt := 58) hx hb dX9_goOn_42 (by decide) (fun _ => ?_) (fun c => absurd c (by decide))
            exact j58 f H locs ls v8_p_m_at (by omega) (by omega) (by omega) hT hP hD hS (lv_sub hl [0] rfl)
  refine lv_aload_n hx hb dX9_goOn_0 rfl (lv_at hl 0 rfl) ?_
  refine lv_aload_n hx hb dX9_goOn_1 rfl (lv_at hl 0 rfl) ?_
  obtain ⟨e380, h365, h366, h367, h368, h369, h370, h371, h372, h373, h374, h375, h376, h377, h378, h379⟩ := (show okX9 ad m_taped m_size m_faultKind m_faultPlace m_at m_end m_token m_number m_name m_bank m_rb m_codes m_within m_piled m_unitsInRule m_askStrand m_askTied m_thoughtClaim m_thoughtNeed m_thoughtAll m_acts m_undone m_laid m_firstMove m_seens m_time m_waysNow m_fitting 148 (f 148) from hT.1 148 (by decide))
  refine va_get (D := D) (cl := vwCl) (ci := 9) (v := .int m_end) (C := RX9) (T := TX9) (N := 64) hx hb hts in_X9_goOn_X9 hown hK hP 148 (wl_at (by decide) e380) rfl 7 (by decide) (hts (.fieldLink RX9 171 "EightReasonsModel" "end" "I") (List.mem_of_getElem? (i := 1) rfl)) (fun _ h9 => h9) rfl dX9_goOn_2 ?_
  refine va_put (D := D) (cl := vwCl) (ci := 9) (v := .int m_end) (ty := tyX9 6) (C := RX9) (T := TX9) (N := 64) hx hb hts in_X9_goOn_X9 tyX9 tyX9_ok nmX9 hown hK hP hD hS 148 (wl_at (by decide) e380) rfl 6 (by decide) (hts (.fieldLink RX9 174 "EightReasonsModel" "at" "I") (List.mem_of_getElem? (i := 2) rfl)) (fun _ h9 => h9) rfl (tyX9_ok 6 (by decide)) rfl rfl (Nat.le_of_ble_eq_true rfl) dX9_goOn_5 (fun H locs hP hD hS => ?_)
  obtain ⟨f, hT, hP, hD, e381, hj382⟩ := stU (by decide) (TYm.p148 hT (show OKm ad cy c_text m_taped m_size m_faultKind m_faultPlace m_end m_end m_token m_number m_name c_points c_strands c_units c_told c_ruleFrom c_ruleTo c_code c_eWhat c_eSign m_bank m_rb m_codes m_within m_piled m_unitsInRule m_askStrand m_askTied m_thoughtClaim m_thoughtNeed m_thoughtAll c_roundOf m_acts m_undone m_laid m_firstMove m_seens m_time m_waysNow m_fitting 148 _ from (show okX9 ad m_taped m_size m_faultKind m_faultPlace m_end m_end m_token m_number m_name m_bank m_rb m_codes m_within m_piled m_unitsInRule m_askStrand m_askTied m_thoughtClaim m_thoughtNeed m_thoughtAll m_acts m_undone m_laid m_firstMove m_seens m_time m_waysNow m_fitting 148 _ from ⟨rfl, by omega, by omega, by omega, by omega, by omega, by omega, by omega, by omega, by omega, by omega, by omega, by omega, by omega, by omega, by omega⟩))) hP hD
  exact j8 (Int.toNat (1601 - m_end.toInt)) f H locs ls m_end (by omega) (by omega) (by omega) (by omega) hT hP hD hS (lv_sub hl [0] rfl)
