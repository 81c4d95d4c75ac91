theorem dX0_forget_0 : decode cX0_forget 0 = .ok (.aload_n 0, 1) := by decide +kernel
theorem dX0_forget_1 : decode cX0_forget 1 = .ok (.iconst 0, 1) := by decide +kernel
theorem dX0_forget_2 : decode cX0_forget 2 = .ok (.putfield 26, 3) := by decide +kernel
theorem dX0_forget_5 : decode cX0_forget 5 = .ok (.aload_n 0, 1) := by decide +kernel
theorem dX0_forget_6 : decode cX0_forget 6 = .ok (.iconst 0, 1) := by decide +kernel
theorem dX0_forget_7 : decode cX0_forget 7 = .ok (.putfield 35, 3) := by decide +kernel
theorem dX0_forget_10 : decode cX0_forget 10 = .ok (.return_, 1) := by decide +kernel
theorem dX3_append_0 : decode cX3_append 0 = .ok (.bipush 24, 2) := by decide +kernel
theorem dX3_append_2 : decode cX3_append 2 = .ok (.istore_n 2, 1) := by decide +kernel
theorem dX3_append_3 : decode cX3_append 3 = .ok (.iload_n 2, 1) := by decide +kernel
theorem dX3_append_4 : decode cX3_append 4 = .ok (.ifCond .lt 42, 3) := by decide +kernel
theorem dX3_append_7 : decode cX3_append 7 = .ok (.aload_n 0, 1) := by decide +kernel
theorem dX3_append_8 : decode cX3_append 8 = .ok (.getfield 49, 3) := by decide +kernel
theorem dX3_append_11 : decode cX3_append 11 = .ok (.sipush 1600, 3) := by decide +kernel
theorem dX3_append_14 : decode cX3_append 14 = .ok (.if_icmp .ge 32, 3) := by decide +kernel
theorem dX3_append_17 : decode cX3_append 17 = .ok (.aload_n 0, 1) := by decide +kernel
theorem dX3_append_18 : decode cX3_append 18 = .ok (.getfield 15, 3) := by decide +kernel
theorem dX3_append_21 : decode cX3_append 21 = .ok (.aload_n 0, 1) := by decide +kernel
theorem dX3_append_22 : decode cX3_append 22 = .ok (.getfield 49, 3) := by decide +kernel
theorem dX3_append_25 : decode cX3_append 25 = .ok (.iload_n 1, 1) := by decide +kernel
theorem dX3_append_26 : decode cX3_append 26 = .ok (.iload_n 2, 1) := by decide +kernel
theorem dX3_append_27 : decode cX3_append 27 = .ok (.ishr, 1) := by decide +kernel
theorem dX3_append_28 : decode cX3_append 28 = .ok (.i2b, 1) := by decide +kernel
theorem dX3_append_29 : decode cX3_append 29 = .ok (.bastore, 1) := by decide +kernel
theorem dX3_append_30 : decode cX3_append 30 = .ok (.aload_n 0, 1) := by decide +kernel
theorem dX3_append_31 : decode cX3_append 31 = .ok (.dup, 1) := by decide +kernel
theorem dX3_append_32 : decode cX3_append 32 = .ok (.getfield 49, 3) := by decide +kernel
theorem dX3_append_35 : decode cX3_append 35 = .ok (.iconst 1, 1) := by decide +kernel
theorem dX3_append_36 : decode cX3_append 36 = .ok (.iadd, 1) := by decide +kernel
theorem dX3_append_37 : decode cX3_append 37 = .ok (.putfield 49, 3) := by decide +kernel
theorem dX3_append_40 : decode cX3_append 40 = .ok (.iinc 2 (-8), 3) := by decide +kernel
theorem dX3_append_43 : decode cX3_append 43 = .ok (.goto (-40), 3) := by decide +kernel
theorem dX3_append_46 : decode cX3_append 46 = .ok (.return_, 1) := by decide +kernel
theorem dX3_exchange_0 : decode cX3_exchange 0 = .ok (.aload_n 0, 1) := by decide +kernel
theorem dX3_exchange_1 : decode cX3_exchange 1 = .ok (.getfield 22, 3) := by decide +kernel
theorem dX3_exchange_4 : decode cX3_exchange 4 = .ok (.astore_n 2, 1) := by decide +kernel
theorem dX3_exchange_5 : decode cX3_exchange 5 = .ok (.aload_n 0, 1) := by decide +kernel
theorem dX3_exchange_6 : decode cX3_exchange 6 = .ok (.aload_n 1, 1) := by decide +kernel
theorem dX3_exchange_7 : decode cX3_exchange 7 = .ok (.putfield 22, 3) := by decide +kernel
theorem dX3_exchange_10 : decode cX3_exchange 10 = .ok (.aload_n 2, 1) := by decide +kernel
theorem dX3_exchange_11 : decode cX3_exchange 11 = .ok (.areturn, 1) := by decide +kernel
set_option maxRecDepth 20000 in
theorem ggX3_advance_X3_isBlank : GoodIn wsX3_advance wsX3_isBlank := goodIn_r _ [9] rfl rfl
set_option maxRecDepth 20000 in
theorem gX3_advance_X3_isBlank : GoodIn wsX3_advance (va_wsS RX3 73 yX3_isBlank wsX3_isBlank) := goodIn_app (goodIn_of _ (by decide +kernel)) ggX3_advance_X3_isBlank
set_option maxRecDepth 20000 in
theorem ggX3_advance_X3_isLetter : GoodIn wsX3_advance wsX3_isLetter := goodIn_r _ [12] rfl rfl
set_option maxRecDepth 20000 in
theorem gX3_advance_X3_isLetter : GoodIn wsX3_advance (va_wsS RX3 80 yX3_isLetter wsX3_isLetter) := goodIn_app (goodIn_of _ (by decide +kernel)) ggX3_advance_X3_isLetter
set_option maxRecDepth 20000 in
theorem ggX3_advance_X3_takeWord : GoodIn wsX3_advance wsX3_takeWord := goodIn_r _ [16, 17, 1, 2, 3, 18, 19, 4, 5, 20, 10, 11, 8, 12, 118, 119, 120, 121, 122, 123, 124, 125, 126, 127, 128, 129, 130] rfl rfl
set_option maxRecDepth 20000 in
theorem gX3_advance_X3_takeWord : GoodIn wsX3_advance (wsV RX3 83 RX3 yX3_takeWord wsX3_takeWord) := goodIn_app (goodIn_of _ (by decide +kernel)) ggX3_advance_X3_takeWord
set_option maxRecDepth 20000 in
theorem ggX3_advance_X3_isDigit : GoodIn wsX3_advance wsX3_isDigit := goodIn_r _ [23] rfl rfl
set_option maxRecDepth 20000 in
theorem gX3_advance_X3_isDigit : GoodIn wsX3_advance (va_wsS RX3 86 yX3_isDigit wsX3_isDigit) := goodIn_app (goodIn_of _ (by decide +kernel)) ggX3_advance_X3_isDigit
set_option maxRecDepth 20000 in
theorem ggX3_advance_X3_takeNumber : GoodIn wsX3_advance wsX3_takeNumber := goodIn_r _ [27, 28, 1, 2, 3, 4, 5, 21, 22, 8, 23, 10, 11, 12, 118, 119, 120, 121, 122, 123, 124, 125, 126, 127, 128, 129, 130] rfl rfl
set_option maxRecDepth 20000 in
theorem gX3_advance_X3_takeNumber : GoodIn wsX3_advance (wsV RX3 89 RX3 yX3_takeNumber wsX3_takeNumber) := goodIn_app (goodIn_of _ (by decide +kernel)) ggX3_advance_X3_takeNumber
set_option maxRecDepth 20000 in
theorem ggX3_advance_J0_indexOf_0f7a4 : GoodIn wsX3_advance wsJ0_indexOf_0f7a4 := goodIn_r _ [33, 34, 35, 36, 32, 37, 38, 39, 40, 41, 42, 43, 44, 45, 46, 47, 48, 49, 50, 51, 52, 53, 54, 55, 56, 57, 58, 59, 60, 61, 62, 63, 64, 65, 66, 67, 68, 69, 70, 71, 72, 73, 74, 75, 76, 77, 78, 79, 80, 81, 82, 83, 84, 85, 86, 87, 88, 89, 90, 91, 92, 93, 94, 95, 96, 97, 98, 99, 100, 101, 102, 103, 104, 105, 106, 107, 108, 109, 110, 111, 112, 113, 114, 115, 116, 117] rfl rfl
set_option maxRecDepth 20000 in
theorem gX3_advance_J0_indexOf_0f7a4 : GoodIn wsX3_advance (wsV RX3 94 RJ0 yJ0_indexOf_0f7a4 wsJ0_indexOf_0f7a4) := goodIn_app (goodIn_of _ (by decide +kernel)) ggX3_advance_J0_indexOf_0f7a4
theorem dX3_advance_0 : decode cX3_advance 0 = .ok (.aload_n 0, 1) := by decide +kernel
theorem dX3_advance_1 : decode cX3_advance 1 = .ok (.getfield 61, 3) := by decide +kernel
theorem dX3_advance_4 : decode cX3_advance 4 = .ok (.aload_n 0, 1) := by decide +kernel
theorem dX3_advance_5 : decode cX3_advance 5 = .ok (.getfield 49, 3) := by decide +kernel
theorem dX3_advance_8 : decode cX3_advance 8 = .ok (.if_icmp .ge 31, 3) := by decide +kernel
theorem dX3_advance_11 : decode cX3_advance 11 = .ok (.aload_n 0, 1) := by decide +kernel
theorem dX3_advance_12 : decode cX3_advance 12 = .ok (.getfield 15, 3) := by decide +kernel
theorem dX3_advance_15 : decode cX3_advance 15 = .ok (.aload_n 0, 1) := by decide +kernel
theorem dX3_advance_16 : decode cX3_advance 16 = .ok (.getfield 61, 3) := by decide +kernel
theorem dX3_advance_19 : decode cX3_advance 19 = .ok (.baload, 1) := by decide +kernel
theorem dX3_advance_20 : decode cX3_advance 20 = .ok (.invokestatic 73, 3) := by decide +kernel
theorem dX3_advance_23 : decode cX3_advance 23 = .ok (.ifCond .eq 16, 3) := by decide +kernel
theorem dX3_advance_26 : decode cX3_advance 26 = .ok (.aload_n 0, 1) := by decide +kernel
theorem dX3_advance_27 : decode cX3_advance 27 = .ok (.dup, 1) := by decide +kernel
theorem dX3_advance_28 : decode cX3_advance 28 = .ok (.getfield 61, 3) := by decide +kernel
theorem dX3_advance_31 : decode cX3_advance 31 = .ok (.iconst 1, 1) := by decide +kernel
theorem dX3_advance_32 : decode cX3_advance 32 = .ok (.iadd, 1) := by decide +kernel
theorem dX3_advance_33 : decode cX3_advance 33 = .ok (.putfield 61, 3) := by decide +kernel
theorem dX3_advance_36 : decode cX3_advance 36 = .ok (.goto (-36), 3) := by decide +kernel
theorem dX3_advance_39 : decode cX3_advance 39 = .ok (.aload_n 0, 1) := by decide +kernel
theorem dX3_advance_40 : decode cX3_advance 40 = .ok (.aload_n 0, 1) := by decide +kernel
theorem dX3_advance_41 : decode cX3_advance 41 = .ok (.getfield 61, 3) := by decide +kernel
theorem dX3_advance_44 : decode cX3_advance 44 = .ok (.putfield 77, 3) := by decide +kernel
theorem dX3_advance_47 : decode cX3_advance 47 = .ok (.aload_n 0, 1) := by decide +kernel
theorem dX3_advance_48 : decode cX3_advance 48 = .ok (.getfield 61, 3) := by decide +kernel
theorem dX3_advance_51 : decode cX3_advance 51 = .ok (.aload_n 0, 1) := by decide +kernel
theorem dX3_advance_52 : decode cX3_advance 52 = .ok (.getfield 49, 3) := by decide +kernel
theorem dX3_advance_55 : decode cX3_advance 55 = .ok (.if_icmp .lt 12, 3) := by decide +kernel
theorem dX3_advance_58 : decode cX3_advance 58 = .ok (.aload_n 0, 1) := by decide +kernel
theorem dX3_advance_59 : decode cX3_advance 59 = .ok (.bipush 16, 2) := by decide +kernel
theorem dX3_advance_61 : decode cX3_advance 61 = .ok (.putfield 67, 3) := by decide +kernel
theorem dX3_advance_64 : decode cX3_advance 64 = .ok (.goto 91, 3) := by decide +kernel
theorem dX3_advance_67 : decode cX3_advance 67 = .ok (.aload_n 0, 1) := by decide +kernel
theorem dX3_advance_68 : decode cX3_advance 68 = .ok (.getfield 15, 3) := by decide +kernel
theorem dX3_advance_71 : decode cX3_advance 71 = .ok (.aload_n 0, 1) := by decide +kernel
theorem dX3_advance_72 : decode cX3_advance 72 = .ok (.getfield 61, 3) := by decide +kernel
theorem dX3_advance_75 : decode cX3_advance 75 = .ok (.baload, 1) := by decide +kernel
theorem dX3_advance_76 : decode cX3_advance 76 = .ok (.invokestatic 80, 3) := by decide +kernel
theorem dX3_advance_79 : decode cX3_advance 79 = .ok (.ifCond .eq 10, 3) := by decide +kernel
theorem dX3_advance_82 : decode cX3_advance 82 = .ok (.aload_n 0, 1) := by decide +kernel
theorem dX3_advance_83 : decode cX3_advance 83 = .ok (.invokevirtual 83, 3) := by decide +kernel
theorem dX3_advance_86 : decode cX3_advance 86 = .ok (.goto 69, 3) := by decide +kernel
theorem dX3_advance_89 : decode cX3_advance 89 = .ok (.aload_n 0, 1) := by decide +kernel
theorem dX3_advance_90 : decode cX3_advance 90 = .ok (.getfield 15, 3) := by decide +kernel
theorem dX3_advance_93 : decode cX3_advance 93 = .ok (.aload_n 0, 1) := by decide +kernel
theorem dX3_advance_94 : decode cX3_advance 94 = .ok (.getfield 61, 3) := by decide +kernel
theorem dX3_advance_97 : decode cX3_advance 97 = .ok (.baload, 1) := by decide +kernel
theorem dX3_advance_98 : decode cX3_advance 98 = .ok (.invokestatic 86, 3) := by decide +kernel
theorem dX3_advance_101 : decode cX3_advance 101 = .ok (.ifCond .eq 10, 3) := by decide +kernel
theorem dX3_advance_104 : decode cX3_advance 104 = .ok (.aload_n 0, 1) := by decide +kernel
theorem dX3_advance_105 : decode cX3_advance 105 = .ok (.invokevirtual 89, 3) := by decide +kernel
theorem dX3_advance_108 : decode cX3_advance 108 = .ok (.goto 47, 3) := by decide +kernel
theorem dX3_advance_111 : decode cX3_advance 111 = .ok (.aload_n 0, 1) := by decide +kernel
theorem dX3_advance_112 : decode cX3_advance 112 = .ok (.getfield 15, 3) := by decide +kernel
theorem dX3_advance_115 : decode cX3_advance 115 = .ok (.aload_n 0, 1) := by decide +kernel
theorem dX3_advance_116 : decode cX3_advance 116 = .ok (.getfield 61, 3) := by decide +kernel
theorem dX3_advance_119 : decode cX3_advance 119 = .ok (.baload, 1) := by decide +kernel
theorem dX3_advance_120 : decode cX3_advance 120 = .ok (.sipush 255, 3) := by decide +kernel
theorem dX3_advance_123 : decode cX3_advance 123 = .ok (.iand, 1) := by decide +kernel
theorem dX3_advance_124 : decode cX3_advance 124 = .ok (.istore_n 1, 1) := by decide +kernel
theorem dX3_advance_125 : decode cX3_advance 125 = .ok (.aload_n 0, 1) := by decide +kernel
theorem dX3_advance_126 : decode cX3_advance 126 = .ok (.ldc 92, 2) := by decide +kernel
theorem dX3_advance_128 : decode cX3_advance 128 = .ok (.iload_n 1, 1) := by decide +kernel
theorem dX3_advance_129 : decode cX3_advance 129 = .ok (.i2c, 1) := by decide +kernel
theorem dX3_advance_130 : decode cX3_advance 130 = .ok (.invokevirtual 94, 3) := by decide +kernel
theorem dX3_advance_133 : decode cX3_advance 133 = .ok (.ifCond .lt 7, 3) := by decide +kernel
theorem dX3_advance_136 : decode cX3_advance 136 = .ok (.iload_n 1, 1) := by decide +kernel
theorem dX3_advance_137 : decode cX3_advance 137 = .ok (.goto 5, 3) := by decide +kernel
theorem dX3_advance_140 : decode cX3_advance 140 = .ok (.bipush 17, 2) := by decide +kernel
theorem dX3_advance_142 : decode cX3_advance 142 = .ok (.putfield 67, 3) := by decide +kernel
theorem dX3_advance_145 : decode cX3_advance 145 = .ok (.aload_n 0, 1) := by decide +kernel
theorem dX3_advance_146 : decode cX3_advance 146 = .ok (.dup, 1) := by decide +kernel
theorem dX3_advance_147 : decode cX3_advance 147 = .ok (.getfield 61, 3) := by decide +kernel
theorem dX3_advance_150 : decode cX3_advance 150 = .ok (.iconst 1, 1) := by decide +kernel
theorem dX3_advance_151 : decode cX3_advance 151 = .ok (.iadd, 1) := by decide +kernel
theorem dX3_advance_152 : decode cX3_advance 152 = .ok (.putfield 61, 3) := by decide +kernel
theorem dX3_advance_155 : decode cX3_advance 155 = .ok (.return_, 1) := by decide +kernel
set_option maxRecDepth 20000 in
theorem ggX3_takeWord_X3_isLetter : GoodIn wsX3_takeWord wsX3_isLetter := goodIn_r _ [13] rfl rfl
set_option maxRecDepth 20000 in
theorem gX3_takeWord_X3_isLetter : GoodIn wsX3_takeWord (va_wsS RX3 80 yX3_isLetter wsX3_isLetter) := goodIn_app (goodIn_of _ (by decide +kernel)) ggX3_takeWord_X3_isLetter
theorem dX3_takeWord_0 : decode cX3_takeWord 0 = .ok (.aload_n 0, 1) := by decide +kernel
theorem dX3_takeWord_1 : decode cX3_takeWord 1 = .ok (.lconst 0, 1) := by decide +kernel
theorem dX3_takeWord_2 : decode cX3_takeWord 2 = .ok (.putfield 98, 3) := by decide +kernel
theorem dX3_takeWord_5 : decode cX3_takeWord 5 = .ok (.aload_n 0, 1) := by decide +kernel
theorem dX3_takeWord_6 : decode cX3_takeWord 6 = .ok (.getfield 61, 3) := by decide +kernel
theorem dX3_takeWord_9 : decode cX3_takeWord 9 = .ok (.aload_n 0, 1) := by decide +kernel
theorem dX3_takeWord_10 : decode cX3_takeWord 10 = .ok (.getfield 49, 3) := by decide +kernel
theorem dX3_takeWord_13 : decode cX3_takeWord 13 = .ok (.if_icmp .ge 60, 3) := by decide +kernel
theorem dX3_takeWord_16 : decode cX3_takeWord 16 = .ok (.aload_n 0, 1) := by decide +kernel
theorem dX3_takeWord_17 : decode cX3_takeWord 17 = .ok (.getfield 15, 3) := by decide +kernel
theorem dX3_takeWord_20 : decode cX3_takeWord 20 = .ok (.aload_n 0, 1) := by decide +kernel
theorem dX3_takeWord_21 : decode cX3_takeWord 21 = .ok (.getfield 61, 3) := by decide +kernel
theorem dX3_takeWord_24 : decode cX3_takeWord 24 = .ok (.baload, 1) := by decide +kernel
theorem dX3_takeWord_25 : decode cX3_takeWord 25 = .ok (.invokestatic 80, 3) := by decide +kernel
theorem dX3_takeWord_28 : decode cX3_takeWord 28 = .ok (.ifCond .eq 45, 3) := by decide +kernel
theorem dX3_takeWord_31 : decode cX3_takeWord 31 = .ok (.aload_n 0, 1) := by decide +kernel
theorem dX3_takeWord_32 : decode cX3_takeWord 32 = .ok (.aload_n 0, 1) := by decide +kernel
theorem dX3_takeWord_33 : decode cX3_takeWord 33 = .ok (.getfield 98, 3) := by decide +kernel
theorem dX3_takeWord_36 : decode cX3_takeWord 36 = .ok (.ldc2_w 45, 3) := by decide +kernel
theorem dX3_takeWord_39 : decode cX3_takeWord 39 = .ok (.lmul, 1) := by decide +kernel
theorem dX3_takeWord_40 : decode cX3_takeWord 40 = .ok (.aload_n 0, 1) := by decide +kernel
theorem dX3_takeWord_41 : decode cX3_takeWord 41 = .ok (.getfield 15, 3) := by decide +kernel
theorem dX3_takeWord_44 : decode cX3_takeWord 44 = .ok (.aload_n 0, 1) := by decide +kernel
theorem dX3_takeWord_45 : decode cX3_takeWord 45 = .ok (.getfield 61, 3) := by decide +kernel
theorem dX3_takeWord_48 : decode cX3_takeWord 48 = .ok (.baload, 1) := by decide +kernel
theorem dX3_takeWord_49 : decode cX3_takeWord 49 = .ok (.i2l, 1) := by decide +kernel
theorem dX3_takeWord_50 : decode cX3_takeWord 50 = .ok (.ladd, 1) := by decide +kernel
theorem dX3_takeWord_51 : decode cX3_takeWord 51 = .ok (.ldc2_w 47, 3) := by decide +kernel
theorem dX3_takeWord_54 : decode cX3_takeWord 54 = .ok (.lsub, 1) := by decide +kernel
theorem dX3_takeWord_55 : decode cX3_takeWord 55 = .ok (.lconst 1, 1) := by decide +kernel
theorem dX3_takeWord_56 : decode cX3_takeWord 56 = .ok (.ladd, 1) := by decide +kernel
theorem dX3_takeWord_57 : decode cX3_takeWord 57 = .ok (.putfield 98, 3) := by decide +kernel
theorem dX3_takeWord_60 : decode cX3_takeWord 60 = .ok (.aload_n 0, 1) := by decide +kernel
theorem dX3_takeWord_61 : decode cX3_takeWord 61 = .ok (.dup, 1) := by decide +kernel
theorem dX3_takeWord_62 : decode cX3_takeWord 62 = .ok (.getfield 61, 3) := by decide +kernel
theorem dX3_takeWord_65 : decode cX3_takeWord 65 = .ok (.iconst 1, 1) := by decide +kernel
theorem dX3_takeWord_66 : decode cX3_takeWord 66 = .ok (.iadd, 1) := by decide +kernel
theorem dX3_takeWord_67 : decode cX3_takeWord 67 = .ok (.putfield 61, 3) := by decide +kernel
theorem dX3_takeWord_70 : decode cX3_takeWord 70 = .ok (.goto (-65), 3) := by decide +kernel
theorem dX3_takeWord_73 : decode cX3_takeWord 73 = .ok (.aload_n 0, 1) := by decide +kernel
theorem dX3_takeWord_74 : decode cX3_takeWord 74 = .ok (.aload_n 0, 1) := by decide +kernel
theorem dX3_takeWord_75 : decode cX3_takeWord 75 = .ok (.getfield 61, 3) := by decide +kernel
theorem dX3_takeWord_78 : decode cX3_takeWord 78 = .ok (.aload_n 0, 1) := by decide +kernel
theorem dX3_takeWord_79 : decode cX3_takeWord 79 = .ok (.getfield 77, 3) := by decide +kernel
theorem dX3_takeWord_82 : decode cX3_takeWord 82 = .ok (.isub, 1) := by decide +kernel
theorem dX3_takeWord_83 : decode cX3_takeWord 83 = .ok (.bipush 8, 2) := by decide +kernel
theorem dX3_takeWord_85 : decode cX3_takeWord 85 = .ok (.if_icmp .le 8, 3) := by decide +kernel
theorem dX3_takeWord_88 : decode cX3_takeWord 88 = .ok (.bipush 17, 2) := by decide +kernel
theorem dX3_takeWord_90 : decode cX3_takeWord 90 = .ok (.goto 5, 3) := by decide +kernel
theorem dX3_takeWord_93 : decode cX3_takeWord 93 = .ok (.bipush 14, 2) := by decide +kernel
theorem dX3_takeWord_95 : decode cX3_takeWord 95 = .ok (.putfield 67, 3) := by decide +kernel
theorem dX3_takeWord_98 : decode cX3_takeWord 98 = .ok (.iconst 0, 1) := by decide +kernel
theorem dX3_takeWord_99 : decode cX3_takeWord 99 = .ok (.istore_n 1, 1) := by decide +kernel
theorem dX3_takeWord_100 : decode cX3_takeWord 100 = .ok (.iload_n 1, 1) := by decide +kernel
theorem dX3_takeWord_101 : decode cX3_takeWord 101 = .ok (.bipush 14, 2) := by decide +kernel
theorem dX3_takeWord_103 : decode cX3_takeWord 103 = .ok (.if_icmp .ge 37, 3) := by decide +kernel
theorem dX3_takeWord_106 : decode cX3_takeWord 106 = .ok (.aload_n 0, 1) := by decide +kernel
theorem dX3_takeWord_107 : decode cX3_takeWord 107 = .ok (.getfield 67, 3) := by decide +kernel
theorem dX3_takeWord_110 : decode cX3_takeWord 110 = .ok (.bipush 14, 2) := by decide +kernel
theorem dX3_takeWord_112 : decode cX3_takeWord 112 = .ok (.if_icmp .ne 28, 3) := by decide +kernel
theorem dX3_takeWord_115 : decode cX3_takeWord 115 = .ok (.aload_n 0, 1) := by decide +kernel
theorem dX3_takeWord_116 : decode cX3_takeWord 116 = .ok (.getfield 30, 3) := by decide +kernel
theorem dX3_takeWord_119 : decode cX3_takeWord 119 = .ok (.iload_n 1, 1) := by decide +kernel
theorem dX3_takeWord_120 : decode cX3_takeWord 120 = .ok (.laload, 1) := by decide +kernel
theorem dX3_takeWord_121 : decode cX3_takeWord 121 = .ok (.aload_n 0, 1) := by decide +kernel
theorem dX3_takeWord_122 : decode cX3_takeWord 122 = .ok (.getfield 98, 3) := by decide +kernel
theorem dX3_takeWord_125 : decode cX3_takeWord 125 = .ok (.lcmp, 1) := by decide +kernel
theorem dX3_takeWord_126 : decode cX3_takeWord 126 = .ok (.ifCond .ne 8, 3) := by decide +kernel
theorem dX3_takeWord_129 : decode cX3_takeWord 129 = .ok (.aload_n 0, 1) := by decide +kernel
theorem dX3_takeWord_130 : decode cX3_takeWord 130 = .ok (.iload_n 1, 1) := by decide +kernel
theorem dX3_takeWord_131 : decode cX3_takeWord 131 = .ok (.putfield 67, 3) := by decide +kernel
theorem dX3_takeWord_134 : decode cX3_takeWord 134 = .ok (.iinc 1 1, 3) := by decide +kernel
theorem dX3_takeWord_137 : decode cX3_takeWord 137 = .ok (.goto (-37), 3) := by decide +kernel
theorem dX3_takeWord_140 : decode cX3_takeWord 140 = .ok (.return_, 1) := by decide +kernel
set_option maxRecDepth 20000 in
theorem ggX3_takeNumber_X3_isDigit : GoodIn wsX3_takeNumber wsX3_isDigit := goodIn_r _ [10] rfl rfl
set_option maxRecDepth 20000 in
theorem gX3_takeNumber_X3_isDigit : GoodIn wsX3_takeNumber (va_wsS RX3 86 yX3_isDigit wsX3_isDigit) := goodIn_app (goodIn_of _ (by decide +kernel)) ggX3_takeNumber_X3_isDigit
set_option maxRecDepth 20000 in
theorem ggX3_takeNumber_X3_isLetter : GoodIn wsX3_takeNumber wsX3_isLetter := goodIn_r _ [13] rfl rfl
set_option maxRecDepth 20000 in
theorem gX3_takeNumber_X3_isLetter : GoodIn wsX3_takeNumber (va_wsS RX3 80 yX3_isLetter wsX3_isLetter) := goodIn_app (goodIn_of _ (by decide +kernel)) ggX3_takeNumber_X3_isLetter
theorem dX3_takeNumber_0 : decode cX3_takeNumber 0 = .ok (.aload_n 0, 1) := by decide +kernel
theorem dX3_takeNumber_1 : decode cX3_takeNumber 1 = .ok (.iconst 0, 1) := by decide +kernel
theorem dX3_takeNumber_2 : decode cX3_takeNumber 2 = .ok (.putfield 102, 3) := by decide +kernel
theorem dX3_takeNumber_5 : decode cX3_takeNumber 5 = .ok (.aload_n 0, 1) := by decide +kernel
theorem dX3_takeNumber_6 : decode cX3_takeNumber 6 = .ok (.getfield 61, 3) := by decide +kernel
theorem dX3_takeNumber_9 : decode cX3_takeNumber 9 = .ok (.aload_n 0, 1) := by decide +kernel
theorem dX3_takeNumber_10 : decode cX3_takeNumber 10 = .ok (.getfield 49, 3) := by decide +kernel
theorem dX3_takeNumber_13 : decode cX3_takeNumber 13 = .ok (.if_icmp .ge 55, 3) := by decide +kernel
theorem dX3_takeNumber_16 : decode cX3_takeNumber 16 = .ok (.aload_n 0, 1) := by decide +kernel
theorem dX3_takeNumber_17 : decode cX3_takeNumber 17 = .ok (.getfield 15, 3) := by decide +kernel
theorem dX3_takeNumber_20 : decode cX3_takeNumber 20 = .ok (.aload_n 0, 1) := by decide +kernel
theorem dX3_takeNumber_21 : decode cX3_takeNumber 21 = .ok (.getfield 61, 3) := by decide +kernel
theorem dX3_takeNumber_24 : decode cX3_takeNumber 24 = .ok (.baload, 1) := by decide +kernel
theorem dX3_takeNumber_25 : decode cX3_takeNumber 25 = .ok (.invokestatic 86, 3) := by decide +kernel
theorem dX3_takeNumber_28 : decode cX3_takeNumber 28 = .ok (.ifCond .eq 40, 3) := by decide +kernel
theorem dX3_takeNumber_31 : decode cX3_takeNumber 31 = .ok (.aload_n 0, 1) := by decide +kernel
theorem dX3_takeNumber_32 : decode cX3_takeNumber 32 = .ok (.aload_n 0, 1) := by decide +kernel
theorem dX3_takeNumber_33 : decode cX3_takeNumber 33 = .ok (.getfield 102, 3) := by decide +kernel
theorem dX3_takeNumber_36 : decode cX3_takeNumber 36 = .ok (.bipush 10, 2) := by decide +kernel
theorem dX3_takeNumber_38 : decode cX3_takeNumber 38 = .ok (.imul, 1) := by decide +kernel
theorem dX3_takeNumber_39 : decode cX3_takeNumber 39 = .ok (.aload_n 0, 1) := by decide +kernel
theorem dX3_takeNumber_40 : decode cX3_takeNumber 40 = .ok (.getfield 15, 3) := by decide +kernel
theorem dX3_takeNumber_43 : decode cX3_takeNumber 43 = .ok (.aload_n 0, 1) := by decide +kernel
theorem dX3_takeNumber_44 : decode cX3_takeNumber 44 = .ok (.getfield 61, 3) := by decide +kernel
theorem dX3_takeNumber_47 : decode cX3_takeNumber 47 = .ok (.baload, 1) := by decide +kernel
theorem dX3_takeNumber_48 : decode cX3_takeNumber 48 = .ok (.iadd, 1) := by decide +kernel
theorem dX3_takeNumber_49 : decode cX3_takeNumber 49 = .ok (.bipush 48, 2) := by decide +kernel
theorem dX3_takeNumber_51 : decode cX3_takeNumber 51 = .ok (.isub, 1) := by decide +kernel
theorem dX3_takeNumber_52 : decode cX3_takeNumber 52 = .ok (.putfield 102, 3) := by decide +kernel
theorem dX3_takeNumber_55 : decode cX3_takeNumber 55 = .ok (.aload_n 0, 1) := by decide +kernel
theorem dX3_takeNumber_56 : decode cX3_takeNumber 56 = .ok (.dup, 1) := by decide +kernel
theorem dX3_takeNumber_57 : decode cX3_takeNumber 57 = .ok (.getfield 61, 3) := by decide +kernel
theorem dX3_takeNumber_60 : decode cX3_takeNumber 60 = .ok (.iconst 1, 1) := by decide +kernel
theorem dX3_takeNumber_61 : decode cX3_takeNumber 61 = .ok (.iadd, 1) := by decide +kernel
theorem dX3_takeNumber_62 : decode cX3_takeNumber 62 = .ok (.putfield 61, 3) := by decide +kernel
theorem dX3_takeNumber_65 : decode cX3_takeNumber 65 = .ok (.goto (-60), 3) := by decide +kernel
theorem dX3_takeNumber_68 : decode cX3_takeNumber 68 = .ok (.aload_n 0, 1) := by decide +kernel
theorem dX3_takeNumber_69 : decode cX3_takeNumber 69 = .ok (.getfield 61, 3) := by decide +kernel
theorem dX3_takeNumber_72 : decode cX3_takeNumber 72 = .ok (.aload_n 0, 1) := by decide +kernel
theorem dX3_takeNumber_73 : decode cX3_takeNumber 73 = .ok (.getfield 49, 3) := by decide +kernel
theorem dX3_takeNumber_76 : decode cX3_takeNumber 76 = .ok (.if_icmp .ge 22, 3) := by decide +kernel
theorem dX3_takeNumber_79 : decode cX3_takeNumber 79 = .ok (.aload_n 0, 1) := by decide +kernel
theorem dX3_takeNumber_80 : decode cX3_takeNumber 80 = .ok (.getfield 15, 3) := by decide +kernel
theorem dX3_takeNumber_83 : decode cX3_takeNumber 83 = .ok (.aload_n 0, 1) := by decide +kernel
theorem dX3_takeNumber_84 : decode cX3_takeNumber 84 = .ok (.getfield 61, 3) := by decide +kernel
theorem dX3_takeNumber_87 : decode cX3_takeNumber 87 = .ok (.baload, 1) := by decide +kernel
theorem dX3_takeNumber_88 : decode cX3_takeNumber 88 = .ok (.invokestatic 80, 3) := by decide +kernel
theorem dX3_takeNumber_91 : decode cX3_takeNumber 91 = .ok (.ifCond .eq 7, 3) := by decide +kernel
theorem dX3_takeNumber_94 : decode cX3_takeNumber 94 = .ok (.iconst 1, 1) := by decide +kernel
theorem dX3_takeNumber_95 : decode cX3_takeNumber 95 = .ok (.goto 4, 3) := by decide +kernel
theorem dX3_takeNumber_98 : decode cX3_takeNumber 98 = .ok (.iconst 0, 1) := by decide +kernel
theorem dX3_takeNumber_99 : decode cX3_takeNumber 99 = .ok (.istore_n 1, 1) := by decide +kernel
theorem dX3_takeNumber_100 : decode cX3_takeNumber 100 = .ok (.aload_n 0, 1) := by decide +kernel
theorem dX3_takeNumber_101 : decode cX3_takeNumber 101 = .ok (.iload_n 1, 1) := by decide +kernel
theorem dX3_takeNumber_102 : decode cX3_takeNumber 102 = .ok (.ifCond .ne 16, 3) := by decide +kernel
theorem dX3_takeNumber_105 : decode cX3_takeNumber 105 = .ok (.aload_n 0, 1) := by decide +kernel
theorem dX3_takeNumber_106 : decode cX3_takeNumber 106 = .ok (.getfield 61, 3) := by decide +kernel
theorem dX3_takeNumber_109 : decode cX3_takeNumber 109 = .ok (.aload_n 0, 1) := by decide +kernel
theorem dX3_takeNumber_110 : decode cX3_takeNumber 110 = .ok (.getfield 77, 3) := by decide +kernel
theorem dX3_takeNumber_113 : decode cX3_takeNumber 113 = .ok (.isub, 1) := by decide +kernel
theorem dX3_takeNumber_114 : decode cX3_takeNumber 114 = .ok (.iconst 4, 1) := by decide +kernel
theorem dX3_takeNumber_115 : decode cX3_takeNumber 115 = .ok (.if_icmp .le 8, 3) := by decide +kernel
theorem dX3_takeNumber_118 : decode cX3_takeNumber 118 = .ok (.bipush 17, 2) := by decide +kernel
theorem dX3_takeNumber_120 : decode cX3_takeNumber 120 = .ok (.goto 5, 3) := by decide +kernel
theorem dX3_takeNumber_123 : decode cX3_takeNumber 123 = .ok (.bipush 15, 2) := by decide +kernel
theorem dX3_takeNumber_125 : decode cX3_takeNumber 125 = .ok (.putfield 67, 3) := by decide +kernel
theorem dX3_takeNumber_128 : decode cX3_takeNumber 128 = .ok (.return_, 1) := by decide +kernel
theorem dX3_isBlank_0 : decode cX3_isBlank 0 = .ok (.iload_n 0, 1) := by decide +kernel
theorem dX3_isBlank_1 : decode cX3_isBlank 1 = .ok (.bipush 32, 2) := by decide +kernel
theorem dX3_isBlank_3 : decode cX3_isBlank 3 = .ok (.if_icmp .eq 9, 3) := by decide +kernel
theorem dX3_isBlank_6 : decode cX3_isBlank 6 = .ok (.iload_n 0, 1) := by decide +kernel
theorem dX3_isBlank_7 : decode cX3_isBlank 7 = .ok (.bipush 10, 2) := by decide +kernel
theorem dX3_isBlank_9 : decode cX3_isBlank 9 = .ok (.if_icmp .ne 7, 3) := by decide +kernel
theorem dX3_isBlank_12 : decode cX3_isBlank 12 = .ok (.iconst 1, 1) := by decide +kernel
theorem dX3_isBlank_13 : decode cX3_isBlank 13 = .ok (.goto 4, 3) := by decide +kernel
theorem dX3_isBlank_16 : decode cX3_isBlank 16 = .ok (.iconst 0, 1) := by decide +kernel
theorem dX3_isBlank_17 : decode cX3_isBlank 17 = .ok (.ireturn, 1) := by decide +kernel
theorem dX3_isLetter_0 : decode cX3_isLetter 0 = .ok (.iload_n 0, 1) := by decide +kernel
theorem dX3_isLetter_1 : decode cX3_isLetter 1 = .ok (.bipush 97, 2) := by decide +kernel
theorem dX3_isLetter_3 : decode cX3_isLetter 3 = .ok (.if_icmp .lt 13, 3) := by decide +kernel
theorem dX3_isLetter_6 : decode cX3_isLetter 6 = .ok (.iload_n 0, 1) := by decide +kernel
theorem dX3_isLetter_7 : decode cX3_isLetter 7 = .ok (.bipush 122, 2) := by decide +kernel
theorem dX3_isLetter_9 : decode cX3_isLetter 9 = .ok (.if_icmp .gt 7, 3) := by decide +kernel
theorem dX3_isLetter_12 : decode cX3_isLetter 12 = .ok (.iconst 1, 1) := by decide +kernel
theorem dX3_isLetter_13 : decode cX3_isLetter 13 = .ok (.goto 4, 3) := by decide +kernel
theorem dX3_isLetter_16 : decode cX3_isLetter 16 = .ok (.iconst 0, 1) := by decide +kernel
theorem dX3_isLetter_17 : decode cX3_isLetter 17 = .ok (.ireturn, 1) := by decide +kernel
theorem dX3_isDigit_0 : decode cX3_isDigit 0 = .ok (.iload_n 0, 1) := by decide +kernel
theorem dX3_isDigit_1 : decode cX3_isDigit 1 = .ok (.bipush 48, 2) := by decide +kernel
theorem dX3_isDigit_3 : decode cX3_isDigit 3 = .ok (.if_icmp .lt 13, 3) := by decide +kernel
theorem dX3_isDigit_6 : decode cX3_isDigit 6 = .ok (.iload_n 0, 1) := by decide +kernel
theorem dX3_isDigit_7 : decode cX3_isDigit 7 = .ok (.bipush 57, 2) := by decide +kernel
theorem dX3_isDigit_9 : decode cX3_isDigit 9 = .ok (.if_icmp .gt 7, 3) := by decide +kernel
theorem dX3_isDigit_12 : decode cX3_isDigit 12 = .ok (.iconst 1, 1) := by decide +kernel
theorem dX3_isDigit_13 : decode cX3_isDigit 13 = .ok (.goto 4, 3) := by decide +kernel
theorem dX3_isDigit_16 : decode cX3_isDigit 16 = .ok (.iconst 0, 1) := by decide +kernel
theorem dX3_isDigit_17 : decode cX3_isDigit 17 = .ok (.ireturn, 1) := by decide +kernel
theorem dX3_blame_0 : decode cX3_blame 0 = .ok (.aload_n 0, 1) := by decide +kernel
theorem dX3_blame_1 : decode cX3_blame 1 = .ok (.getfield 55, 3) := by decide +kernel
theorem dX3_blame_4 : decode cX3_blame 4 = .ok (.ifCond .ne 16, 3) := by decide +kernel
theorem dX3_blame_7 : decode cX3_blame 7 = .ok (.aload_n 0, 1) := by decide +kernel
theorem dX3_blame_8 : decode cX3_blame 8 = .ok (.iload_n 1, 1) := by decide +kernel
theorem dX3_blame_9 : decode cX3_blame 9 = .ok (.putfield 55, 3) := by decide +kernel
theorem dX3_blame_12 : decode cX3_blame 12 = .ok (.aload_n 0, 1) := by decide +kernel
theorem dX3_blame_13 : decode cX3_blame 13 = .ok (.aload_n 0, 1) := by decide +kernel
theorem dX3_blame_14 : decode cX3_blame 14 = .ok (.getfield 77, 3) := by decide +kernel
theorem dX3_blame_17 : decode cX3_blame 17 = .ok (.putfield 9, 3) := by decide +kernel
theorem dX3_blame_20 : decode cX3_blame 20 = .ok (.return_, 1) := by decide +kernel
set_option maxRecDepth 20000 in
theorem ggX3_refuse_X3_blame : GoodIn wsX3_refuse wsX3_blame := goodIn_r _ [6, 7, 8, 9, 10, 11, 12, 13, 14, 15, 16, 17, 18, 19, 20, 21, 22] rfl rfl
set_option maxRecDepth 20000 in
theorem gX3_refuse_X3_blame : GoodIn wsX3_refuse (wsV RX3 105 RX3 yX3_blame wsX3_blame) := goodIn_app (goodIn_of _ (by decide +kernel)) ggX3_refuse_X3_blame
theorem dX3_refuse_0 : decode cX3_refuse 0 = .ok (.aload_n 0, 1) := by decide +kernel
theorem dX3_refuse_1 : decode cX3_refuse 1 = .ok (.aload_n 0, 1) := by decide +kernel
theorem dX3_refuse_2 : decode cX3_refuse 2 = .ok (.getfield 67, 3) := by decide +kernel
theorem dX3_refuse_5 : decode cX3_refuse 5 = .ok (.bipush 17, 2) := by decide +kernel
theorem dX3_refuse_7 : decode cX3_refuse 7 = .ok (.if_icmp .ne 7, 3) := by decide +kernel
theorem dX3_refuse_10 : decode cX3_refuse 10 = .ok (.iconst 1, 1) := by decide +kernel
theorem dX3_refuse_11 : decode cX3_refuse 11 = .ok (.goto 4, 3) := by decide +kernel
theorem dX3_refuse_14 : decode cX3_refuse 14 = .ok (.iconst 2, 1) := by decide +kernel
theorem dX3_refuse_15 : decode cX3_refuse 15 = .ok (.invokevirtual 105, 3) := by decide +kernel
theorem dX3_refuse_18 : decode cX3_refuse 18 = .ok (.return_, 1) := by decide +kernel
set_option maxRecDepth 20000 in
theorem ggX3_expect_X3_advance : GoodIn wsX3_expect wsX3_advance := goodIn_r _ [7, 8, 9, 10, 11, 2, 12, 13, 6, 14, 15, 16, 17, 18, 19, 20, 21, 22, 23, 24, 25, 26, 27, 28, 29, 30, 31, 32, 33, 34, 35, 36, 37, 38, 39, 40, 41, 42, 43, 44, 45, 46, 47, 48, 49, 50, 51, 52, 53, 54, 55, 56, 57, 58, 59, 60, 61, 62, 63, 64, 65, 66, 67, 68, 69, 70, 71, 72, 73, 74, 75, 76, 77, 78, 79, 80, 81, 82, 83, 84, 85, 86, 87, 88, 89, 90, 91, 92, 93, 94, 95, 96, 97, 98, 99, 100, 101, 102, 103, 104, 105, 106, 107, 108, 109, 110, 111, 112, 113, 114, 115, 116, 117, 118, 119, 120, 121, 122, 132, 133, 134, 135, 136, 137, 138, 139, 140, 141, 142, 143, 144] rfl rfl
set_option maxRecDepth 20000 in
theorem gX3_expect_X3_advance : GoodIn wsX3_expect (wsV RX3 64 RX3 yX3_advance wsX3_advance) := goodIn_app (goodIn_of _ (by decide +kernel)) ggX3_expect_X3_advance
set_option maxRecDepth 20000 in
theorem ggX3_expect_X3_refuse : GoodIn wsX3_expect wsX3_refuse := goodIn_r _ [126, 2, 127, 128, 129, 6, 130, 1, 11, 131, 132, 133, 134, 135, 136, 137, 138, 139, 140, 141, 142, 143, 144] rfl rfl
set_option maxRecDepth 20000 in
theorem gX3_expect_X3_refuse : GoodIn wsX3_expect (wsV RX3 109 RX3 yX3_refuse wsX3_refuse) := goodIn_app (goodIn_of _ (by decide +kernel)) ggX3_expect_X3_refuse
theorem dX3_expect_0 : decode cX3_expect 0 = .ok (.aload_n 0, 1) := by decide +kernel
theorem dX3_expect_1 : decode cX3_expect 1 = .ok (.getfield 55, 3) := by decide +kernel
theorem dX3_expect_4 : decode cX3_expect 4 = .ok (.ifCond .eq 4, 3) := by decide +kernel
theorem dX3_expect_7 : decode cX3_expect 7 = .ok (.return_, 1) := by decide +kernel
theorem dX3_expect_8 : decode cX3_expect 8 = .ok (.aload_n 0, 1) := by decide +kernel
theorem dX3_expect_9 : decode cX3_expect 9 = .ok (.getfield 67, 3) := by decide +kernel
theorem dX3_expect_12 : decode cX3_expect 12 = .ok (.iload_n 1, 1) := by decide +kernel
theorem dX3_expect_13 : decode cX3_expect 13 = .ok (.if_icmp .ne 10, 3) := by decide +kernel
theorem dX3_expect_16 : decode cX3_expect 16 = .ok (.aload_n 0, 1) := by decide +kernel
theorem dX3_expect_17 : decode cX3_expect 17 = .ok (.invokevirtual 64, 3) := by decide +kernel
theorem dX3_expect_20 : decode cX3_expect 20 = .ok (.goto 7, 3) := by decide +kernel
theorem dX3_expect_23 : decode cX3_expect 23 = .ok (.aload_n 0, 1) := by decide +kernel
theorem dX3_expect_24 : decode cX3_expect 24 = .ok (.invokevirtual 109, 3) := by decide +kernel
theorem dX3_expect_27 : decode cX3_expect 27 = .ok (.return_, 1) := by decide +kernel
set_option maxRecDepth 20000 in
theorem ggX3_begin_X3_advance : GoodIn wsX3_begin wsX3_advance := goodIn_r _ [5, 6, 7, 8, 9, 10, 11, 12, 4, 13, 14, 15, 16, 17, 18, 19, 20, 21, 22, 23, 24, 25, 26, 27, 28, 29, 30, 31, 32, 33, 34, 35, 36, 37, 38, 39, 40, 41, 42, 43, 44, 45, 46, 47, 48, 49, 50, 51, 52, 53, 54, 55, 56, 57, 58, 59, 60, 61, 62, 63, 64, 65, 66, 67, 68, 69, 70, 71, 72, 73, 74, 75, 76, 77, 78, 79, 80, 81, 82, 83, 84, 85, 86, 87, 88, 89, 90, 91, 92, 93, 94, 95, 96, 97, 98, 99, 100, 101, 102, 103, 104, 105, 106, 107, 108, 109, 110, 111, 112, 113, 114, 115, 116, 117, 118, 119, 120, 121, 128, 129, 130, 131, 132, 133, 134, 135, 136, 137, 138, 139, 140] rfl rfl
set_option maxRecDepth 20000 in
theorem gX3_begin_X3_advance : GoodIn wsX3_begin (wsV RX3 64 RX3 yX3_advance wsX3_advance) := goodIn_app (goodIn_of _ (by decide +kernel)) ggX3_begin_X3_advance
set_option maxRecDepth 20000 in
theorem ggX3_begin_X3_blame : GoodIn wsX3_begin wsX3_blame := goodIn_r _ [125, 126, 9, 127, 128, 129, 130, 131, 132, 133, 134, 135, 136, 137, 138, 139, 140] rfl rfl
set_option maxRecDepth 20000 in
theorem gX3_begin_X3_blame : GoodIn wsX3_begin (wsV RX3 105 RX3 yX3_blame wsX3_blame) := goodIn_app (goodIn_of _ (by decide +kernel)) ggX3_begin_X3_blame
theorem dX3_begin_0 : decode cX3_begin 0 = .ok (.iload_n 1, 1) := by decide +kernel
theorem dX3_begin_1 : decode cX3_begin 1 = .ok (.ifCond .eq 10, 3) := by decide +kernel
theorem dX3_begin_4 : decode cX3_begin 4 = .ok (.aload_n 0, 1) := by decide +kernel
theorem dX3_begin_5 : decode cX3_begin 5 = .ok (.invokevirtual 64, 3) := by decide +kernel
theorem dX3_begin_8 : decode cX3_begin 8 = .ok (.goto 8, 3) := by decide +kernel
theorem dX3_begin_11 : decode cX3_begin 11 = .ok (.aload_n 0, 1) := by decide +kernel
theorem dX3_begin_12 : decode cX3_begin 12 = .ok (.iconst 2, 1) := by decide +kernel
theorem dX3_begin_13 : decode cX3_begin 13 = .ok (.invokevirtual 105, 3) := by decide +kernel
theorem dX3_begin_16 : decode cX3_begin 16 = .ok (.iload_n 1, 1) := by decide +kernel
theorem dX3_begin_17 : decode cX3_begin 17 = .ok (.ireturn, 1) := by decide +kernel
set_option maxRecDepth 20000 in
theorem ggX3_isFirst_X8_has : GoodIn wsX3_isFirst wsX8_has := goodIn_r _ [5] rfl rfl
set_option maxRecDepth 20000 in
theorem gX3_isFirst_X8_has_n145 : GoodIn wsX3_isFirst (wsX8_has) := ggX3_isFirst_X8_has
theorem dX3_isFirst_0 : decode cX3_isFirst 0 = .ok (.aload_n 0, 1) := by decide +kernel
theorem dX3_isFirst_1 : decode cX3_isFirst 1 = .ok (.getfield 58, 3) := by decide +kernel
theorem dX3_isFirst_4 : decode cX3_isFirst 4 = .ok (.aload_n 0, 1) := by decide +kernel
theorem dX3_isFirst_5 : decode cX3_isFirst 5 = .ok (.getfield 67, 3) := by decide +kernel
theorem dX3_isFirst_8 : decode cX3_isFirst 8 = .ok (.invokestatic 145, 3) := by decide +kernel
theorem dX3_isFirst_11 : decode cX3_isFirst 11 = .ok (.ifCond .ne 7, 3) := by decide +kernel
theorem dX3_isFirst_14 : decode cX3_isFirst 14 = .ok (.iconst 1, 1) := by decide +kernel
theorem dX3_isFirst_15 : decode cX3_isFirst 15 = .ok (.goto 4, 3) := by decide +kernel
theorem dX3_isFirst_18 : decode cX3_isFirst 18 = .ok (.iconst 0, 1) := by decide +kernel
theorem dX3_isFirst_19 : decode cX3_isFirst 19 = .ok (.istore_n 1, 1) := by decide +kernel
theorem dX3_isFirst_20 : decode cX3_isFirst 20 = .ok (.aload_n 0, 1) := by decide +kernel
theorem dX3_isFirst_21 : decode cX3_isFirst 21 = .ok (.dup, 1) := by decide +kernel
theorem dX3_isFirst_22 : decode cX3_isFirst 22 = .ok (.getfield 58, 3) := by decide +kernel
theorem dX3_isFirst_25 : decode cX3_isFirst 25 = .ok (.iconst 1, 1) := by decide +kernel
theorem dX3_isFirst_26 : decode cX3_isFirst 26 = .ok (.aload_n 0, 1) := by decide +kernel
theorem dX3_isFirst_27 : decode cX3_isFirst 27 = .ok (.getfield 67, 3) := by decide +kernel
theorem dX3_isFirst_30 : decode cX3_isFirst 30 = .ok (.ishl, 1) := by decide +kernel
theorem dX3_isFirst_31 : decode cX3_isFirst 31 = .ok (.ior, 1) := by decide +kernel
theorem dX3_isFirst_32 : decode cX3_isFirst 32 = .ok (.putfield 58, 3) := by decide +kernel
theorem dX3_isFirst_35 : decode cX3_isFirst 35 = .ok (.iload_n 1, 1) := by decide +kernel
theorem dX3_isFirst_36 : decode cX3_isFirst 36 = .ok (.ireturn, 1) := by decide +kernel
set_option maxRecDepth 20000 in
theorem ggX3_readClaim_X3_begin : GoodIn wsX3_readClaim wsX3_begin := goodIn_r _ [8, 9, 10, 11, 7, 12, 13, 14, 15, 16, 17, 18, 19, 20, 21, 22, 23, 24, 25, 26, 27, 28, 29, 30, 31, 32, 33, 34, 35, 36, 37, 38, 39, 40, 41, 42, 43, 44, 45, 46, 47, 48, 49, 50, 51, 52, 53, 54, 55, 56, 57, 58, 59, 60, 61, 62, 63, 64, 65, 66, 67, 68, 69, 70, 71, 72, 73, 74, 75, 76, 77, 78, 79, 80, 81, 82, 83, 84, 85, 86, 87, 88, 89, 90, 91, 92, 93, 94, 95, 96, 97, 98, 99, 100, 101, 102, 103, 104, 105, 106, 107, 108, 109, 110, 111, 112, 113, 114, 115, 116, 117, 118, 119, 120, 121, 122, 123, 124, 125, 126, 127, 128, 129, 130, 131, 132, 3, 133, 165, 166, 167, 168, 169, 170, 171, 172, 173, 174, 175, 176, 177] rfl rfl
set_option maxRecDepth 20000 in
theorem gX3_readClaim_X3_begin : GoodIn wsX3_readClaim (wsV RX3 125 RX3 yX3_begin wsX3_begin) := goodIn_app (goodIn_of _ (by decide +kernel)) ggX3_readClaim_X3_begin
set_option maxRecDepth 20000 in
theorem ggX3_readClaim_X3_readNewName : GoodIn wsX3_readClaim wsX3_readNewName := goodIn_r _ [137, 17, 1, 2, 138, 28, 139, 140, 141, 7, 142, 129, 130, 131, 132, 3, 16, 133, 143, 144, 145, 146, 9, 10, 11, 12, 13, 14, 15, 18, 19, 20, 21, 22, 23, 24, 25, 26, 27, 29, 30, 31, 32, 33, 34, 35, 36, 37, 38, 39, 40, 41, 42, 43, 44, 45, 46, 47, 48, 49, 50, 51, 52, 53, 54, 55, 56, 57, 58, 59, 60, 61, 62, 63, 64, 65, 66, 67, 68, 69, 70, 71, 72, 73, 74, 75, 76, 77, 78, 79, 80, 81, 82, 83, 84, 85, 86, 87, 88, 89, 90, 91, 92, 93, 94, 95, 96, 97, 98, 99, 100, 101, 102, 103, 104, 105, 106, 107, 108, 109, 110, 111, 112, 113, 114, 115, 116, 117, 118, 119, 120, 121, 122, 123, 124, 125, 126, 127, 128, 165, 166, 167, 168, 169, 170, 171, 172, 173, 174, 175, 176, 177, 178, 179, 180, 181, 182, 183, 184, 185, 186, 187, 188, 189] rfl rfl
set_option maxRecDepth 20000 in
theorem gX3_readClaim_X3_readNewName : GoodIn wsX3_readClaim (wsV RX3 152 RX3 yX3_readNewName wsX3_readNewName) := goodIn_app (goodIn_of _ (by decide +kernel)) ggX3_readClaim_X3_readNewName
set_option maxRecDepth 20000 in
theorem ggX3_readClaim_X3_expect : GoodIn wsX3_readClaim wsX3_expect := goodIn_r _ [150, 3, 17, 9, 10, 11, 7, 12, 13, 14, 15, 16, 18, 19, 20, 21, 22, 23, 24, 25, 26, 27, 28, 29, 30, 31, 32, 33, 34, 35, 36, 37, 38, 39, 40, 41, 42, 43, 44, 45, 46, 47, 48, 49, 50, 51, 52, 53, 54, 55, 56, 57, 58, 59, 60, 61, 62, 63, 64, 65, 66, 67, 68, 69, 70, 71, 72, 73, 74, 75, 76, 77, 78, 79, 80, 81, 82, 83, 84, 85, 86, 87, 88, 89, 90, 91, 92, 93, 94, 95, 96, 97, 98, 99, 100, 101, 102, 103, 104, 105, 106, 107, 108, 109, 110, 111, 112, 113, 114, 115, 116, 117, 118, 119, 120, 121, 122, 123, 124, 125, 126, 127, 128, 139, 140, 141, 142, 129, 130, 131, 132, 133, 165, 166, 167, 168, 169, 170, 171, 172, 173, 174, 175, 176, 177] rfl rfl
set_option maxRecDepth 20000 in
theorem gX3_readClaim_X3_expect : GoodIn wsX3_readClaim (wsV RX3 142 RX3 yX3_expect wsX3_expect) := goodIn_app (goodIn_of _ (by decide +kernel)) ggX3_readClaim_X3_expect
set_option maxRecDepth 20000 in
theorem ggX3_readClaim_X3_readNumber : GoodIn wsX3_readClaim wsX3_readNumber := goodIn_r _ [154, 39, 17, 139, 140, 141, 7, 142, 129, 130, 131, 132, 3, 16, 133, 9, 10, 11, 12, 13, 14, 15, 18, 19, 20, 21, 22, 23, 24, 25, 26, 27, 28, 29, 30, 31, 32, 33, 34, 35, 36, 37, 38, 40, 41, 42, 43, 44, 45, 46, 47, 48, 49, 50, 51, 52, 53, 54, 55, 56, 57, 58, 59, 60, 61, 62, 63, 64, 65, 66, 67, 68, 69, 70, 71, 72, 73, 74, 75, 76, 77, 78, 79, 80, 81, 82, 83, 84, 85, 86, 87, 88, 89, 90, 91, 92, 93, 94, 95, 96, 97, 98, 99, 100, 101, 102, 103, 104, 105, 106, 107, 108, 109, 110, 111, 112, 113, 114, 115, 116, 117, 118, 119, 120, 121, 122, 123, 124, 125, 126, 127, 128, 165, 166, 167, 168, 169, 170, 171, 172, 173, 174, 175, 176, 177] rfl rfl
set_option maxRecDepth 20000 in
theorem gX3_readClaim_X3_readNumber : GoodIn wsX3_readClaim (wsV RX3 132 RX3 yX3_readNumber wsX3_readNumber) := goodIn_app (goodIn_of _ (by decide +kernel)) ggX3_readClaim_X3_readNumber
set_option maxRecDepth 20000 in
theorem ggX3_readClaim_X5_addPoint : GoodIn wsX3_readClaim wsX5_addPoint := goodIn_r _ [159, 160, 161, 162, 163, 164, 178, 179, 180, 181, 182, 183, 184, 185, 186, 187, 188, 189] rfl rfl
set_option maxRecDepth 20000 in
theorem gX3_readClaim_X5_addPoint : GoodIn wsX3_readClaim (wsV RX3 155 RX5 yX5_addPoint wsX5_addPoint) := goodIn_app (goodIn_of _ (by decide +kernel)) ggX3_readClaim_X5_addPoint
theorem dX3_readClaim_0 : decode cX3_readClaim 0 = .ok (.aload_n 0, 1) := by decide +kernel
theorem dX3_readClaim_1 : decode cX3_readClaim 1 = .ok (.aload_n 0, 1) := by decide +kernel
theorem dX3_readClaim_2 : decode cX3_readClaim 2 = .ok (.getfield 22, 3) := by decide +kernel
theorem dX3_readClaim_5 : decode cX3_readClaim 5 = .ok (.getfield 149, 3) := by decide +kernel
theorem dX3_readClaim_8 : decode cX3_readClaim 8 = .ok (.bipush 10, 2) := by decide +kernel
theorem dX3_readClaim_10 : decode cX3_readClaim 10 = .ok (.if_icmp .ge 7, 3) := by decide +kernel
theorem dX3_readClaim_13 : decode cX3_readClaim 13 = .ok (.iconst 1, 1) := by decide +kernel
theorem dX3_readClaim_14 : decode cX3_readClaim 14 = .ok (.goto 4, 3) := by decide +kernel
theorem dX3_readClaim_17 : decode cX3_readClaim 17 = .ok (.iconst 0, 1) := by decide +kernel
theorem dX3_readClaim_18 : decode cX3_readClaim 18 = .ok (.invokevirtual 125, 3) := by decide +kernel
theorem dX3_readClaim_21 : decode cX3_readClaim 21 = .ok (.ifCond .ne 4, 3) := by decide +kernel
theorem dX3_readClaim_24 : decode cX3_readClaim 24 = .ok (.return_, 1) := by decide +kernel
theorem dX3_readClaim_25 : decode cX3_readClaim 25 = .ok (.aload_n 0, 1) := by decide +kernel
theorem dX3_readClaim_26 : decode cX3_readClaim 26 = .ok (.invokevirtual 152, 3) := by decide +kernel
theorem dX3_readClaim_29 : decode cX3_readClaim 29 = .ok (.aload_n 0, 1) := by decide +kernel
theorem dX3_readClaim_30 : decode cX3_readClaim 30 = .ok (.iconst 2, 1) := by decide +kernel
theorem dX3_readClaim_31 : decode cX3_readClaim 31 = .ok (.invokevirtual 142, 3) := by decide +kernel
theorem dX3_readClaim_34 : decode cX3_readClaim 34 = .ok (.aload_n 0, 1) := by decide +kernel
theorem dX3_readClaim_35 : decode cX3_readClaim 35 = .ok (.iconst 1, 1) := by decide +kernel
theorem dX3_readClaim_36 : decode cX3_readClaim 36 = .ok (.bipush 99, 2) := by decide +kernel
theorem dX3_readClaim_38 : decode cX3_readClaim 38 = .ok (.invokevirtual 132, 3) := by decide +kernel
theorem dX3_readClaim_41 : decode cX3_readClaim 41 = .ok (.istore_n 1, 1) := by decide +kernel
theorem dX3_readClaim_42 : decode cX3_readClaim 42 = .ok (.aload_n 0, 1) := by decide +kernel
theorem dX3_readClaim_43 : decode cX3_readClaim 43 = .ok (.getfield 55, 3) := by decide +kernel
theorem dX3_readClaim_46 : decode cX3_readClaim 46 = .ok (.ifCond .ne 12, 3) := by decide +kernel
theorem dX3_readClaim_49 : decode cX3_readClaim 49 = .ok (.aload_n 0, 1) := by decide +kernel
theorem dX3_readClaim_50 : decode cX3_readClaim 50 = .ok (.getfield 22, 3) := by decide +kernel
theorem dX3_readClaim_53 : decode cX3_readClaim 53 = .ok (.iconst 0, 1) := by decide +kernel
theorem dX3_readClaim_54 : decode cX3_readClaim 54 = .ok (.iload_n 1, 1) := by decide +kernel
theorem dX3_readClaim_55 : decode cX3_readClaim 55 = .ok (.invokevirtual 155, 3) := by decide +kernel
theorem dX3_readClaim_58 : decode cX3_readClaim 58 = .ok (.return_, 1) := by decide +kernel
set_option maxRecDepth 20000 in
theorem ggX3_readNewName_X3_refuse : GoodIn wsX3_readNewName wsX3_refuse := goodIn_r _ [10, 1, 11, 12, 13, 9, 14, 15, 16, 17, 139, 140, 141, 142, 143, 144, 145, 146, 147, 148, 149, 150, 151] rfl rfl
set_option maxRecDepth 20000 in
theorem gX3_readNewName_X3_refuse : GoodIn wsX3_readNewName (wsV RX3 109 RX3 yX3_refuse wsX3_refuse) := goodIn_app (goodIn_of _ (by decide +kernel)) ggX3_readNewName_X3_refuse
set_option maxRecDepth 20000 in
theorem ggX3_readNewName_X3_find : GoodIn wsX3_readNewName wsX3_find := goodIn_r _ [21, 2, 3, 4, 5, 139, 140, 141, 142, 143, 144, 145, 146, 147, 148, 149, 150, 151, 152, 153, 154, 155, 156, 157, 158, 159, 160, 161, 162, 163] rfl rfl
set_option maxRecDepth 20000 in
theorem gX3_readNewName_X3_find : GoodIn wsX3_readNewName (wsV RX3 185 RX3 yX3_find wsX3_find) := goodIn_app (goodIn_of _ (by decide +kernel)) ggX3_readNewName_X3_find
set_option maxRecDepth 20000 in
theorem ggX3_readNewName_X3_blame : GoodIn wsX3_readNewName wsX3_blame := goodIn_r _ [14, 15, 16, 17, 139, 140, 141, 142, 143, 144, 145, 146, 147, 148, 149, 150, 151] rfl rfl
set_option maxRecDepth 20000 in
theorem gX3_readNewName_X3_blame : GoodIn wsX3_readNewName (wsV RX3 105 RX3 yX3_blame wsX3_blame) := goodIn_app (goodIn_of _ (by decide +kernel)) ggX3_readNewName_X3_blame
set_option maxRecDepth 20000 in
theorem ggX3_readNewName_X3_advance : GoodIn wsX3_readNewName wsX3_advance := goodIn_r _ [25, 26, 27, 28, 16, 1, 29, 30, 9, 31, 32, 33, 34, 35, 36, 37, 38, 5, 39, 40, 41, 42, 43, 44, 45, 46, 47, 48, 49, 50, 51, 52, 53, 54, 55, 56, 57, 58, 59, 60, 61, 62, 63, 64, 65, 66, 67, 68, 69, 70, 71, 72, 73, 74, 75, 76, 77, 78, 79, 80, 81, 82, 83, 84, 85, 86, 87, 88, 89, 90, 91, 92, 93, 94, 95, 96, 97, 98, 99, 100, 101, 102, 103, 104, 105, 106, 107, 108, 109, 110, 111, 112, 113, 114, 115, 116, 117, 118, 119, 120, 121, 122, 123, 124, 125, 126, 127, 128, 129, 130, 131, 132, 133, 134, 135, 136, 137, 138, 139, 140, 141, 142, 143, 144, 145, 146, 147, 148, 149, 150, 151] rfl rfl
set_option maxRecDepth 20000 in
theorem gX3_readNewName_X3_advance : GoodIn wsX3_readNewName (wsV RX3 64 RX3 yX3_advance wsX3_advance) := goodIn_app (goodIn_of _ (by decide +kernel)) ggX3_readNewName_X3_advance
theorem dX3_readNewName_0 : decode cX3_readNewName 0 = .ok (.aload_n 0, 1) := by decide +kernel
theorem dX3_readNewName_1 : decode cX3_readNewName 1 = .ok (.getfield 67, 3) := by decide +kernel
theorem dX3_readNewName_4 : decode cX3_readNewName 4 = .ok (.bipush 14, 2) := by decide +kernel
theorem dX3_readNewName_6 : decode cX3_readNewName 6 = .ok (.if_icmp .eq 10, 3) := by decide +kernel
theorem dX3_readNewName_9 : decode cX3_readNewName 9 = .ok (.aload_n 0, 1) := by decide +kernel
theorem dX3_readNewName_10 : decode cX3_readNewName 10 = .ok (.invokevirtual 109, 3) := by decide +kernel
theorem dX3_readNewName_13 : decode cX3_readNewName 13 = .ok (.goto 54, 3) := by decide +kernel
theorem dX3_readNewName_16 : decode cX3_readNewName 16 = .ok (.aload_n 0, 1) := by decide +kernel
theorem dX3_readNewName_17 : decode cX3_readNewName 17 = .ok (.invokevirtual 185, 3) := by decide +kernel
theorem dX3_readNewName_20 : decode cX3_readNewName 20 = .ok (.iconst (-1), 1) := by decide +kernel
theorem dX3_readNewName_21 : decode cX3_readNewName 21 = .ok (.if_icmp .eq 11, 3) := by decide +kernel
theorem dX3_readNewName_24 : decode cX3_readNewName 24 = .ok (.aload_n 0, 1) := by decide +kernel
theorem dX3_readNewName_25 : decode cX3_readNewName 25 = .ok (.iconst 3, 1) := by decide +kernel
theorem dX3_readNewName_26 : decode cX3_readNewName 26 = .ok (.invokevirtual 105, 3) := by decide +kernel
theorem dX3_readNewName_29 : decode cX3_readNewName 29 = .ok (.goto 38, 3) := by decide +kernel
theorem dX3_readNewName_32 : decode cX3_readNewName 32 = .ok (.aload_n 0, 1) := by decide +kernel
theorem dX3_readNewName_33 : decode cX3_readNewName 33 = .ok (.getfield 22, 3) := by decide +kernel
theorem dX3_readNewName_36 : decode cX3_readNewName 36 = .ok (.getfield 149, 3) := by decide +kernel
theorem dX3_readNewName_39 : decode cX3_readNewName 39 = .ok (.aload_n 0, 1) := by decide +kernel
theorem dX3_readNewName_40 : decode cX3_readNewName 40 = .ok (.getfield 26, 3) := by decide +kernel
theorem dX3_readNewName_43 : decode cX3_readNewName 43 = .ok (.arraylength, 1) := by decide +kernel
theorem dX3_readNewName_44 : decode cX3_readNewName 44 = .ok (.if_icmp .ge 23, 3) := by decide +kernel
theorem dX3_readNewName_47 : decode cX3_readNewName 47 = .ok (.aload_n 0, 1) := by decide +kernel
theorem dX3_readNewName_48 : decode cX3_readNewName 48 = .ok (.getfield 26, 3) := by decide +kernel
theorem dX3_readNewName_51 : decode cX3_readNewName 51 = .ok (.aload_n 0, 1) := by decide +kernel
theorem dX3_readNewName_52 : decode cX3_readNewName 52 = .ok (.getfield 22, 3) := by decide +kernel
theorem dX3_readNewName_55 : decode cX3_readNewName 55 = .ok (.getfield 149, 3) := by decide +kernel
theorem dX3_readNewName_58 : decode cX3_readNewName 58 = .ok (.aload_n 0, 1) := by decide +kernel
theorem dX3_readNewName_59 : decode cX3_readNewName 59 = .ok (.getfield 98, 3) := by decide +kernel
theorem dX3_readNewName_62 : decode cX3_readNewName 62 = .ok (.lastore, 1) := by decide +kernel
theorem dX3_readNewName_63 : decode cX3_readNewName 63 = .ok (.aload_n 0, 1) := by decide +kernel
theorem dX3_readNewName_64 : decode cX3_readNewName 64 = .ok (.invokevirtual 64, 3) := by decide +kernel
theorem dX3_readNewName_67 : decode cX3_readNewName 67 = .ok (.return_, 1) := by decide +kernel
theorem dX3_find_0 : decode cX3_find 0 = .ok (.iconst 0, 1) := by decide +kernel
theorem dX3_find_1 : decode cX3_find 1 = .ok (.istore_n 1, 1) := by decide +kernel
theorem dX3_find_2 : decode cX3_find 2 = .ok (.iload_n 1, 1) := by decide +kernel
theorem dX3_find_3 : decode cX3_find 3 = .ok (.aload_n 0, 1) := by decide +kernel
theorem dX3_find_4 : decode cX3_find 4 = .ok (.getfield 22, 3) := by decide +kernel
theorem dX3_find_7 : decode cX3_find 7 = .ok (.getfield 149, 3) := by decide +kernel
theorem dX3_find_10 : decode cX3_find 10 = .ok (.if_icmp .ge 25, 3) := by decide +kernel
theorem dX3_find_13 : decode cX3_find 13 = .ok (.aload_n 0, 1) := by decide +kernel
theorem dX3_find_14 : decode cX3_find 14 = .ok (.getfield 26, 3) := by decide +kernel
theorem dX3_find_17 : decode cX3_find 17 = .ok (.iload_n 1, 1) := by decide +kernel
theorem dX3_find_18 : decode cX3_find 18 = .ok (.laload, 1) := by decide +kernel
theorem dX3_find_19 : decode cX3_find 19 = .ok (.aload_n 0, 1) := by decide +kernel
theorem dX3_find_20 : decode cX3_find 20 = .ok (.getfield 98, 3) := by decide +kernel
theorem dX3_find_23 : decode cX3_find 23 = .ok (.lcmp, 1) := by decide +kernel
theorem dX3_find_24 : decode cX3_find 24 = .ok (.ifCond .ne 5, 3) := by decide +kernel
theorem dX3_find_27 : decode cX3_find 27 = .ok (.iload_n 1, 1) := by decide +kernel
theorem dX3_find_28 : decode cX3_find 28 = .ok (.ireturn, 1) := by decide +kernel
theorem dX3_find_29 : decode cX3_find 29 = .ok (.iinc 1 1, 3) := by decide +kernel
theorem dX3_find_32 : decode cX3_find 32 = .ok (.goto (-30), 3) := by decide +kernel
theorem dX3_find_35 : decode cX3_find 35 = .ok (.iconst (-1), 1) := by decide +kernel
theorem dX3_find_36 : decode cX3_find 36 = .ok (.ireturn, 1) := by decide +kernel
set_option maxRecDepth 20000 in
theorem ggX3_readNumber_X3_refuse : GoodIn wsX3_readNumber wsX3_refuse := goodIn_r _ [7, 2, 8, 9, 10, 6, 11, 12, 13, 14, 132, 133, 134, 135, 136, 137, 138, 139, 140, 141, 142, 143, 144] rfl rfl
set_option maxRecDepth 20000 in
theorem gX3_readNumber_X3_refuse : GoodIn wsX3_readNumber (wsV RX3 109 RX3 yX3_refuse wsX3_refuse) := goodIn_app (goodIn_of _ (by decide +kernel)) ggX3_readNumber_X3_refuse
set_option maxRecDepth 20000 in
theorem ggX3_readNumber_X3_blame : GoodIn wsX3_readNumber wsX3_blame := goodIn_r _ [11, 12, 13, 14, 132, 133, 134, 135, 136, 137, 138, 139, 140, 141, 142, 143, 144] rfl rfl
set_option maxRecDepth 20000 in
theorem gX3_readNumber_X3_blame : GoodIn wsX3_readNumber (wsV RX3 105 RX3 yX3_blame wsX3_blame) := goodIn_app (goodIn_of _ (by decide +kernel)) ggX3_readNumber_X3_blame
set_option maxRecDepth 20000 in
theorem ggX3_readNumber_X3_advance : GoodIn wsX3_readNumber wsX3_advance := goodIn_r _ [18, 19, 20, 21, 13, 2, 22, 23, 6, 24, 25, 26, 27, 28, 29, 30, 31, 32, 33, 34, 35, 36, 37, 38, 39, 40, 41, 42, 1, 43, 44, 45, 46, 47, 48, 49, 50, 51, 52, 53, 54, 55, 56, 57, 58, 59, 60, 61, 62, 63, 64, 65, 66, 67, 68, 69, 70, 71, 72, 73, 74, 75, 76, 77, 78, 79, 80, 81, 82, 83, 84, 85, 86, 87, 88, 89, 90, 91, 92, 93, 94, 95, 96, 97, 98, 99, 100, 101, 102, 103, 104, 105, 106, 107, 108, 109, 110, 111, 112, 113, 114, 115, 116, 117, 118, 119, 120, 121, 122, 123, 124, 125, 126, 127, 128, 129, 130, 131, 132, 133, 134, 135, 136, 137, 138, 139, 140, 141, 142, 143, 144] rfl rfl
set_option maxRecDepth 20000 in
theorem gX3_readNumber_X3_advance : GoodIn wsX3_readNumber (wsV RX3 64 RX3 yX3_advance wsX3_advance) := goodIn_app (goodIn_of _ (by decide +kernel)) ggX3_readNumber_X3_advance
theorem dX3_readNumber_0 : decode cX3_readNumber 0 = .ok (.aload_n 0, 1) := by decide +kernel
theorem dX3_readNumber_1 : decode cX3_readNumber 1 = .ok (.getfield 102, 3) := by decide +kernel
theorem dX3_readNumber_4 : decode cX3_readNumber 4 = .ok (.istore_n 3, 1) := by decide +kernel
theorem dX3_readNumber_5 : decode cX3_readNumber 5 = .ok (.aload_n 0, 1) := by decide +kernel
theorem dX3_readNumber_6 : decode cX3_readNumber 6 = .ok (.getfield 67, 3) := by decide +kernel
theorem dX3_readNumber_9 : decode cX3_readNumber 9 = .ok (.bipush 15, 2) := by decide +kernel
theorem dX3_readNumber_11 : decode cX3_readNumber 11 = .ok (.if_icmp .eq 10, 3) := by decide +kernel
theorem dX3_readNumber_14 : decode cX3_readNumber 14 = .ok (.aload_n 0, 1) := by decide +kernel
theorem dX3_readNumber_15 : decode cX3_readNumber 15 = .ok (.invokevirtual 109, 3) := by decide +kernel
theorem dX3_readNumber_18 : decode cX3_readNumber 18 = .ok (.goto 25, 3) := by decide +kernel
theorem dX3_readNumber_21 : decode cX3_readNumber 21 = .ok (.iload_n 3, 1) := by decide +kernel
theorem dX3_readNumber_22 : decode cX3_readNumber 22 = .ok (.iload_n 1, 1) := by decide +kernel
theorem dX3_readNumber_23 : decode cX3_readNumber 23 = .ok (.if_icmp .lt 8, 3) := by decide +kernel
theorem dX3_readNumber_26 : decode cX3_readNumber 26 = .ok (.iload_n 3, 1) := by decide +kernel
theorem dX3_readNumber_27 : decode cX3_readNumber 27 = .ok (.iload_n 2, 1) := by decide +kernel
theorem dX3_readNumber_28 : decode cX3_readNumber 28 = .ok (.if_icmp .le 11, 3) := by decide +kernel
theorem dX3_readNumber_31 : decode cX3_readNumber 31 = .ok (.aload_n 0, 1) := by decide +kernel
theorem dX3_readNumber_32 : decode cX3_readNumber 32 = .ok (.iconst 4, 1) := by decide +kernel
theorem dX3_readNumber_33 : decode cX3_readNumber 33 = .ok (.invokevirtual 105, 3) := by decide +kernel
theorem dX3_readNumber_36 : decode cX3_readNumber 36 = .ok (.goto 7, 3) := by decide +kernel
theorem dX3_readNumber_39 : decode cX3_readNumber 39 = .ok (.aload_n 0, 1) := by decide +kernel
theorem dX3_readNumber_40 : decode cX3_readNumber 40 = .ok (.invokevirtual 64, 3) := by decide +kernel
theorem dX3_readNumber_43 : decode cX3_readNumber 43 = .ok (.iload_n 3, 1) := by decide +kernel
theorem dX3_readNumber_44 : decode cX3_readNumber 44 = .ok (.ireturn, 1) := by decide +kernel
theorem dX5_addPoint_0 : decode cX5_addPoint 0 = .ok (.aload_n 0, 1) := by decide +kernel
theorem dX5_addPoint_1 : decode cX5_addPoint 1 = .ok (.getfield 37, 3) := by decide +kernel
theorem dX5_addPoint_4 : decode cX5_addPoint 4 = .ok (.bipush 10, 2) := by decide +kernel
theorem dX5_addPoint_6 : decode cX5_addPoint 6 = .ok (.if_icmp .lt 4, 3) := by decide +kernel
theorem dX5_addPoint_9 : decode cX5_addPoint 9 = .ok (.return_, 1) := by decide +kernel
theorem dX5_addPoint_10 : decode cX5_addPoint 10 = .ok (.iload_n 1, 1) := by decide +kernel
theorem dX5_addPoint_11 : decode cX5_addPoint 11 = .ok (.ifCond .eq 18, 3) := by decide +kernel
theorem dX5_addPoint_14 : decode cX5_addPoint 14 = .ok (.aload_n 0, 1) := by decide +kernel
theorem dX5_addPoint_15 : decode cX5_addPoint 15 = .ok (.dup, 1) := by decide +kernel
theorem dX5_addPoint_16 : decode cX5_addPoint 16 = .ok (.getfield 41, 3) := by decide +kernel
theorem dX5_addPoint_19 : decode cX5_addPoint 19 = .ok (.iconst 1, 1) := by decide +kernel
theorem dX5_addPoint_20 : decode cX5_addPoint 20 = .ok (.aload_n 0, 1) := by decide +kernel
theorem dX5_addPoint_21 : decode cX5_addPoint 21 = .ok (.getfield 37, 3) := by decide +kernel
theorem dX5_addPoint_24 : decode cX5_addPoint 24 = .ok (.ishl, 1) := by decide +kernel
theorem dX5_addPoint_25 : decode cX5_addPoint 25 = .ok (.ior, 1) := by decide +kernel
theorem dX5_addPoint_26 : decode cX5_addPoint 26 = .ok (.putfield 41, 3) := by decide +kernel
theorem dX5_addPoint_29 : decode cX5_addPoint 29 = .ok (.aload_n 0, 1) := by decide +kernel
theorem dX5_addPoint_30 : decode cX5_addPoint 30 = .ok (.getfield 9, 3) := by decide +kernel
theorem dX5_addPoint_33 : decode cX5_addPoint 33 = .ok (.aload_n 0, 1) := by decide +kernel
theorem dX5_addPoint_34 : decode cX5_addPoint 34 = .ok (.getfield 37, 3) := by decide +kernel
theorem dX5_addPoint_37 : decode cX5_addPoint 37 = .ok (.iload_n 2, 1) := by decide +kernel
theorem dX5_addPoint_38 : decode cX5_addPoint 38 = .ok (.iastore, 1) := by decide +kernel
theorem dX5_addPoint_39 : decode cX5_addPoint 39 = .ok (.aload_n 0, 1) := by decide +kernel
theorem dX5_addPoint_40 : decode cX5_addPoint 40 = .ok (.getfield 15, 3) := by decide +kernel
theorem dX5_addPoint_43 : decode cX5_addPoint 43 = .ok (.aload_n 0, 1) := by decide +kernel
theorem dX5_addPoint_44 : decode cX5_addPoint 44 = .ok (.getfield 37, 3) := by decide +kernel
theorem dX5_addPoint_47 : decode cX5_addPoint 47 = .ok (.iconst 0, 1) := by decide +kernel
theorem dX5_addPoint_48 : decode cX5_addPoint 48 = .ok (.iastore, 1) := by decide +kernel
theorem dX5_addPoint_49 : decode cX5_addPoint 49 = .ok (.aload_n 0, 1) := by decide +kernel
theorem dX5_addPoint_50 : decode cX5_addPoint 50 = .ok (.getfield 18, 3) := by decide +kernel
theorem dX5_addPoint_53 : decode cX5_addPoint 53 = .ok (.aload_n 0, 1) := by decide +kernel
theorem dX5_addPoint_54 : decode cX5_addPoint 54 = .ok (.getfield 37, 3) := by decide +kernel
theorem dX5_addPoint_57 : decode cX5_addPoint 57 = .ok (.iconst 0, 1) := by decide +kernel
theorem dX5_addPoint_58 : decode cX5_addPoint 58 = .ok (.iastore, 1) := by decide +kernel
theorem dX5_addPoint_59 : decode cX5_addPoint 59 = .ok (.aload_n 0, 1) := by decide +kernel
theorem dX5_addPoint_60 : decode cX5_addPoint 60 = .ok (.dup, 1) := by decide +kernel
theorem dX5_addPoint_61 : decode cX5_addPoint 61 = .ok (.getfield 37, 3) := by decide +kernel
theorem dX5_addPoint_64 : decode cX5_addPoint 64 = .ok (.iconst 1, 1) := by decide +kernel
theorem dX5_addPoint_65 : decode cX5_addPoint 65 = .ok (.iadd, 1) := by decide +kernel
theorem dX5_addPoint_66 : decode cX5_addPoint 66 = .ok (.putfield 37, 3) := by decide +kernel
theorem dX5_addPoint_69 : decode cX5_addPoint 69 = .ok (.return_, 1) := by decide +kernel
set_option maxRecDepth 20000 in
theorem ggX8_feed_X3_append : GoodIn wsX8_feed wsX3_append := goodIn_r _ [7, 8, 9, 23, 24, 25, 26, 27, 28, 29, 30, 31, 32, 33, 34, 35] rfl rfl
set_option maxRecDepth 20000 in
theorem gX8_feed_X3_append : GoodIn wsX8_feed (wsV RX8 73 RX3 yX3_append wsX3_append) := goodIn_app (goodIn_of _ (by decide +kernel)) ggX8_feed_X3_append
theorem dX8_feed_0 : decode cX8_feed 0 = .ok (.aload_n 0, 1) := by decide +kernel
theorem dX8_feed_1 : decode cX8_feed 1 = .ok (.getfield 10, 3) := by decide +kernel
theorem dX8_feed_4 : decode cX8_feed 4 = .ok (.getfield 69, 3) := by decide +kernel
theorem dX8_feed_7 : decode cX8_feed 7 = .ok (.bipush 20, 2) := by decide +kernel
theorem dX8_feed_9 : decode cX8_feed 9 = .ok (.iadd, 1) := by decide +kernel
theorem dX8_feed_10 : decode cX8_feed 10 = .ok (.sipush 1600, 3) := by decide +kernel
theorem dX8_feed_13 : decode cX8_feed 13 = .ok (.if_icmp .le 5, 3) := by decide +kernel
theorem dX8_feed_16 : decode cX8_feed 16 = .ok (.iconst (-1), 1) := by decide +kernel
theorem dX8_feed_17 : decode cX8_feed 17 = .ok (.ireturn, 1) := by decide +kernel
theorem dX8_feed_18 : decode cX8_feed 18 = .ok (.aload_n 0, 1) := by decide +kernel
theorem dX8_feed_19 : decode cX8_feed 19 = .ok (.getfield 10, 3) := by decide +kernel
theorem dX8_feed_22 : decode cX8_feed 22 = .ok (.iload_n 1, 1) := by decide +kernel
theorem dX8_feed_23 : decode cX8_feed 23 = .ok (.invokevirtual 73, 3) := by decide +kernel
theorem dX8_feed_26 : decode cX8_feed 26 = .ok (.aload_n 0, 1) := by decide +kernel
theorem dX8_feed_27 : decode cX8_feed 27 = .ok (.getfield 10, 3) := by decide +kernel
theorem dX8_feed_30 : decode cX8_feed 30 = .ok (.iload_n 2, 1) := by decide +kernel
theorem dX8_feed_31 : decode cX8_feed 31 = .ok (.invokevirtual 73, 3) := by decide +kernel
theorem dX8_feed_34 : decode cX8_feed 34 = .ok (.aload_n 0, 1) := by decide +kernel
theorem dX8_feed_35 : decode cX8_feed 35 = .ok (.getfield 10, 3) := by decide +kernel
theorem dX8_feed_38 : decode cX8_feed 38 = .ok (.iload_n 3, 1) := by decide +kernel
theorem dX8_feed_39 : decode cX8_feed 39 = .ok (.invokevirtual 73, 3) := by decide +kernel
theorem dX8_feed_42 : decode cX8_feed 42 = .ok (.aload_n 0, 1) := by decide +kernel
theorem dX8_feed_43 : decode cX8_feed 43 = .ok (.getfield 10, 3) := by decide +kernel
theorem dX8_feed_46 : decode cX8_feed 46 = .ok (.iload 4, 2) := by decide +kernel
theorem dX8_feed_48 : decode cX8_feed 48 = .ok (.invokevirtual 73, 3) := by decide +kernel
theorem dX8_feed_51 : decode cX8_feed 51 = .ok (.aload_n 0, 1) := by decide +kernel
theorem dX8_feed_52 : decode cX8_feed 52 = .ok (.getfield 10, 3) := by decide +kernel
theorem dX8_feed_55 : decode cX8_feed 55 = .ok (.iload 5, 2) := by decide +kernel
theorem dX8_feed_57 : decode cX8_feed 57 = .ok (.invokevirtual 73, 3) := by decide +kernel
theorem dX8_feed_60 : decode cX8_feed 60 = .ok (.aload_n 0, 1) := by decide +kernel
theorem dX8_feed_61 : decode cX8_feed 61 = .ok (.getfield 10, 3) := by decide +kernel
theorem dX8_feed_64 : decode cX8_feed 64 = .ok (.getfield 69, 3) := by decide +kernel
theorem dX8_feed_67 : decode cX8_feed 67 = .ok (.ireturn, 1) := by decide +kernel
theorem dX8_end_0 : decode cX8_end 0 = .ok (.iload_n 1, 1) := by decide +kernel
theorem dX8_end_1 : decode cX8_end 1 = .ok (.ifCond .lt 14, 3) := by decide +kernel
theorem dX8_end_4 : decode cX8_end 4 = .ok (.iload_n 1, 1) := by decide +kernel
theorem dX8_end_5 : decode cX8_end 5 = .ok (.aload_n 0, 1) := by decide +kernel
theorem dX8_end_6 : decode cX8_end 6 = .ok (.getfield 10, 3) := by decide +kernel
theorem dX8_end_9 : decode cX8_end 9 = .ok (.getfield 69, 3) := by decide +kernel
theorem dX8_end_12 : decode cX8_end 12 = .ok (.if_icmp .le 5, 3) := by decide +kernel
theorem dX8_end_15 : decode cX8_end 15 = .ok (.iconst (-1), 1) := by decide +kernel
theorem dX8_end_16 : decode cX8_end 16 = .ok (.ireturn, 1) := by decide +kernel
theorem dX8_end_17 : decode cX8_end 17 = .ok (.aload_n 0, 1) := by decide +kernel
theorem dX8_end_18 : decode cX8_end 18 = .ok (.getfield 10, 3) := by decide +kernel
theorem dX8_end_21 : decode cX8_end 21 = .ok (.iload_n 1, 1) := by decide +kernel
theorem dX8_end_22 : decode cX8_end 22 = .ok (.putfield 69, 3) := by decide +kernel
theorem dX8_end_25 : decode cX8_end 25 = .ok (.iload_n 1, 1) := by decide +kernel
theorem dX8_end_26 : decode cX8_end 26 = .ok (.ireturn, 1) := by decide +kernel
theorem dX8_has_0 : decode cX8_has 0 = .ok (.iload_n 0, 1) := by decide +kernel
theorem dX8_has_1 : decode cX8_has 1 = .ok (.iload_n 1, 1) := by decide +kernel
theorem dX8_has_2 : decode cX8_has 2 = .ok (.ishr, 1) := by decide +kernel
theorem dX8_has_3 : decode cX8_has 3 = .ok (.iconst 1, 1) := by decide +kernel
theorem dX8_has_4 : decode cX8_has 4 = .ok (.iand, 1) := by decide +kernel
theorem dX8_has_5 : decode cX8_has 5 = .ok (.ifCond .eq 7, 3) := by decide +kernel
theorem dX8_has_8 : decode cX8_has 8 = .ok (.iconst 1, 1) := by decide +kernel
theorem dX8_has_9 : decode cX8_has 9 = .ok (.goto 4, 3) := by decide +kernel
theorem dX8_has_12 : decode cX8_has 12 = .ok (.iconst 0, 1) := by decide +kernel
theorem dX8_has_13 : decode cX8_has 13 = .ok (.ireturn, 1) := by decide +kernel
theorem in_X3_append_X3 : ∀ w ∈ wsX30, w ∈ wsX3_append := fun _ h => List.mem_cons_of_mem _ (List.mem_append_right _ h)
theorem in_X8_feed_X8 : ∀ w ∈ wsX80, w ∈ wsX8_feed := fun _ h => List.mem_cons_of_mem _ (List.mem_append_left _ (List.mem_append_right _ h))
theorem in_X8_feed_X3 : ∀ w ∈ wsX30, w ∈ wsX8_feed := fun _ h => List.mem_cons_of_mem _ (List.mem_append_right _ h)
theorem in_X8_end_X8 : ∀ w ∈ wsX80, w ∈ wsX8_end := fun _ h => List.mem_cons_of_mem _ (List.mem_append_left _ (List.mem_append_right _ h))
theorem in_X8_end_X3 : ∀ w ∈ wsX30, w ∈ wsX8_end := fun _ h => List.mem_cons_of_mem _ (List.mem_append_right _ h)
theorem in_X0_forget_X0 : ∀ w ∈ wsX00, w ∈ wsX0_forget := fun _ h => List.mem_cons_of_mem _ (List.mem_append_right _ h)
theorem in_X3_exchange_X3 : ∀ w ∈ wsX30, w ∈ wsX3_exchange := fun _ h => List.mem_cons_of_mem _ (List.mem_append_right _ h)
theorem in_X3_takeNumber_X3 : ∀ w ∈ wsX30, w ∈ wsX3_takeNumber := fun _ h => List.mem_cons_of_mem _ (List.mem_append_right _ h)
theorem in_X3_takeWord_X3 : ∀ w ∈ wsX30, w ∈ wsX3_takeWord := fun _ h => List.mem_cons_of_mem _ (List.mem_append_right _ h)
theorem in_X3_advance_X3 : ∀ w ∈ wsX30, w ∈ wsX3_advance := fun _ h => List.mem_cons_of_mem _ (List.mem_append_right _ h)
theorem in_X3_blame_X3 : ∀ w ∈ wsX30, w ∈ wsX3_blame := fun _ h => List.mem_cons_of_mem _ (List.mem_append_right _ h)
theorem in_X3_refuse_X3 : ∀ w ∈ wsX30, w ∈ wsX3_refuse := fun _ h => List.mem_cons_of_mem _ (List.mem_append_right _ h)
theorem in_X3_expect_X3 : ∀ w ∈ wsX30, w ∈ wsX3_expect := fun _ h => List.mem_cons_of_mem _ (List.mem_append_right _ h)
theorem in_X3_isFirst_X3 : ∀ w ∈ wsX30, w ∈ wsX3_isFirst := fun _ h => List.mem_cons_of_mem _ (List.mem_append_right _ h)
theorem in_X3_find_X3 : ∀ w ∈ wsX30, w ∈ wsX3_find := fun _ h => List.mem_cons_of_mem _ (List.mem_append_left _ (List.mem_append_right _ h))
theorem in_X3_find_X5 : ∀ w ∈ wsX50, w ∈ wsX3_find := fun _ h => List.mem_cons_of_mem _ (List.mem_append_right _ h)
theorem in_X3_readNewName_X3 : ∀ w ∈ wsX30, w ∈ wsX3_readNewName := fun _ h => List.mem_cons_of_mem _ (List.mem_append_left _ (List.mem_append_right _ h))
theorem in_X3_readNewName_X5 : ∀ w ∈ wsX50, w ∈ wsX3_readNewName := fun _ h => List.mem_cons_of_mem _ (List.mem_append_right _ h)
theorem in_X3_readNumber_X3 : ∀ w ∈ wsX30, w ∈ wsX3_readNumber := fun _ h => List.mem_cons_of_mem _ (List.mem_append_right _ h)
theorem in_X5_addPoint_X5 : ∀ w ∈ wsX50, w ∈ wsX5_addPoint := fun _ h => List.mem_cons_of_mem _ (List.mem_append_right _ h)
theorem in_X3_readClaim_X3 : ∀ w ∈ wsX30, w ∈ wsX3_readClaim := fun _ h => List.mem_cons_of_mem _ (List.mem_append_left _ (List.mem_append_right _ h))
theorem in_X3_readClaim_X5 : ∀ w ∈ wsX50, w ∈ wsX3_readClaim := fun _ h => List.mem_cons_of_mem _ (List.mem_append_right _ h)
set_option maxHeartbeats 4000000 in
set_option maxRecDepth 100000 in
theorem s_X3_append_0 (l : Launch) (B0 : Nat) (adK adV : Nat → Nat) (D : va_G) (cy : Nat → ClassId) (ad : Nat → Nat) (fr0 : Nat → va_E) (tx : Int32) (rby : Int32) (rnx : Int32) (f : Nat → va_E) (hT : TYx ad cy fr0 tx rby rnx f) (p1 : Int32) (sz : Nat) : TtV l yX3_append wsX3_append 0 0 [.ref (ad 1), .int p1] B0 adK adV D cy ad f sz (fun (g : Nat → va_E) => True ∧ (∃ (rby' : Int32), TYx ad cy fr0 tx rby' rnx g)) := by
  refine TtV.of (cc := cX3_append) (maxL := 3) (own := RX3) (by decide) rfl (Nat.le_of_ble_eq_true rfl) rfl ?_
  intro p e s m below meth c A ls hx hb hr hml hts hown hlk hK hE hP hD hS hA hAB hl
  have hl : lv_has ls 3 [(0, .ref (ad 1)), (1, .int p1)] := hl
  refine st0 (fun H locs hP hS => ?_) hP hS
  have j3 : ∀ (N : Nat) (f : Nat → va_E) (H : Heap) (locs : List Loc) (ls : Array Slot) (v3_l2 : Int32) (v3_p_rby : Int32), (v3_l2.toInt - (-9) ≤ (N : Int)) → (-8 ≤ v3_l2.toInt ∧ v3_l2.toInt ≤ 24) → (TYx ad cy fr0 tx v3_p_rby rnx f) → (va_P D vwCl (wl ad f) H) → (va_D A (wl ad f)) → (va_S A s.heap H locs) → (lv_has ls 3 [(2, .int v3_l2), (0, .ref (ad 1)), (1, .int p1)]) → W p l e (rmO 0 0 0 0) s m ([.ref (ad 1), .int p1] : List Value).toArray below meth c H locs 0 0 (MQ below (va_Qv (fun (g : Nat → va_E) => True ∧ (∃ (rby' : Int32), TYx ad cy fr0 tx rby' rnx g)) (fun g t => PstT D ad g t) A) ([.ref (ad 1), .int p1] : List Value).toArray s 0 0 A) (F0 m 3 ls []) := by
    intro N
    induction N with
    | zero => intro f H locs ls v3_l2 v3_p_rby hN hv3_l2 hT hP hD hS hl; exact absurd hN (by omega)
    | succ N ih3 =>
      intro f H locs ls v3_l2 v3_p_rby hN hv3_l2 hT hP hD hS hl
      refine lv_iload_n hx hb dX3_append_3 rfl (lv_at hl 0 rfl) ?_
      have ttl_0 := tl_0
      refine lv_if_lt (tgt := 46) hx hb dX3_append_4 (by decide) (fun c1 => ?_) (fun c1 => ?_)
      · have kc1 := c_lt c1
        exact tV hx hb hr hlk hP hS ⟨trivial, ⟨v3_p_rby, hT⟩⟩ dX3_append_46
      · have kc1 := c_nlt c1
        refine lv_aload_n hx hb dX3_append_7 rfl (lv_at hl 1 rfl) ?_
        obtain ⟨x2, x3, t5, x7, x9, x10, x11, y12, e13, h4, h6, h8⟩ := (show okX3 ad v3_p_rby rnx 1 (f 1) from hT.1 1 (by decide))
        refine va_get (D := D) (cl := vwCl) (ci := 3) (v := .int v3_p_rby) (C := RX3) (T := TX3) (N := 13) hx hb hts in_X3_append_X3 hown hK hP 1 (wl_at (by decide) e13) rfl 2 (by decide) (hts (.fieldLink RX3 49 "EightReasons$Reader" "bytes" "I") (List.mem_of_getElem? (i := 1) rfl)) (fun _ h9 => h9) rfl dX3_append_8 ?_
        refine lv_sipush (v := 1600) hx hb dX3_append_11 (by decide) ?_
        have ttl_1600 := tl_1600
        refine lv_icmp_ge (tgt := 46) hx hb dX3_append_14 (by decide) (fun c14 => ?_) (fun c14 => ?_)
        · have kc14 := c_le c14
          exact tV hx hb hr hlk hP hS ⟨trivial, ⟨v3_p_rby, hT⟩⟩ dX3_append_46
        · have kc14 := c_nle c14
          refine lv_aload_n hx hb dX3_append_17 rfl (lv_at hl 1 rfl) ?_
          refine va_get (D := D) (cl := vwCl) (ci := 3) (v := .ref (ad 2)) (C := RX3) (T := TX3) (N := 13) hx hb hts in_X3_append_X3 hown hK hP 1 (wl_at (by decide) e13) rfl 3 (by decide) (hts (.fieldLink RX3 15 "EightReasons$Reader" "tape" "[B") (List.mem_of_getElem? (i := 2) rfl)) (fun _ h9 => h9) rfl dX3_append_18 ?_
          refine lv_aload_n hx hb dX3_append_21 rfl (lv_at hl 1 rfl) ?_
          refine va_get (D := D) (cl := vwCl) (ci := 3) (v := .int v3_p_rby) (C := RX3) (T := TX3) (N := 13) hx hb hts in_X3_append_X3 hown hK hP 1 (wl_at (by decide) e13) rfl 2 (by decide) (hts (.fieldLink RX3 49 "EightReasons$Reader" "bytes" "I") (List.mem_of_getElem? (i := 1) rfl)) (fun _ h9 => h9) rfl dX3_append_22 ?_
          refine lv_iload_n hx hb dX3_append_25 rfl (lv_at hl 2 rfl) ?_
          refine lv_iload_n hx hb dX3_append_26 rfl (lv_at hl 0 rfl) ?_
          refine lv_ishr hx hb dX3_append_27 ?_
          refine lv_topi (fun x15 ex15 => ?_)
          refine lv_i2b hx hb dX3_append_28 rfl ?_
          refine lv_topi (fun x16 ex16 => ?_)
          obtain ⟨g18, e17⟩ := (show okB cy 1600 (f 2) from hT.1 2 (by decide))
          refine va_bast hx hb hK hP hD hS 2 1 (wl_at (by decide) e17) rfl (vp_in_iff.mpr ⟨by omega, by omega⟩) dX3_append_29 (fun H locs hP hD hS => ?_)
          obtain ⟨f, hT, hP, hD, e19, hj20⟩ := stU (by decide) (TYx.up hT (by decide) (show OKx ad cy tx v3_p_rby rnx 2 _ from (show okB cy 1600 _ from ⟨_, rfl⟩))) hP hD
          have e21 := (hj20 1 (by decide)).trans e13
          refine lv_aload_n hx hb dX3_append_30 rfl (lv_at hl 1 rfl) ?_
          refine lv_dup hx hb dX3_append_31 rfl ?_
          refine va_get (D := D) (cl := vwCl) (ci := 3) (v := .int v3_p_rby) (C := RX3) (T := TX3) (N := 13) hx hb hts in_X3_append_X3 hown hK hP 1 (wl_at (by decide) e21) rfl 2 (by decide) (hts (.fieldLink RX3 49 "EightReasons$Reader" "bytes" "I") (List.mem_of_getElem? (i := 1) rfl)) (fun _ h9 => h9) rfl dX3_append_32 ?_
          refine lv_iconst (v := 1) hx hb dX3_append_35 (by decide) ?_
          have ttl_1 := tl_1
          refine lv_iadd hx hb dX3_append_36 ?_
          refine lv_topi (fun x22 ex22 => ?_)
          have hx22 := r_add ex22 (by omega) (by omega)
          refine va_put (D := D) (cl := vwCl) (ci := 3) (v := .int x22) (ty := tyX3 2) (C := RX3) (T := TX3) (N := 13) hx hb hts in_X3_append_X3 tyX3 tyX3_ok nmX3 hown hK hP hD hS 1 (wl_at (by decide) e21) rfl 2 (by decide) (hts (.fieldLink RX3 49 "EightReasons$Reader" "bytes" "I") (List.mem_of_getElem? (i := 1) rfl)) (fun _ h9 => h9) rfl (tyX3_ok 2 (by decide)) rfl rfl (Nat.le_of_ble_eq_true rfl) dX3_append_37 (fun H locs hP hD hS => ?_)
          obtain ⟨f, hT, hP, hD, e23, hj24⟩ := stU (by decide) (TYx.p1 hT (show OKx ad cy tx x22 rnx 1 _ from (show okX3 ad x22 rnx 1 _ from ⟨x2, x3, t5, x7, x9, x10, x11, y12, rfl, by omega, h6, by omega⟩))) hP hD
          obtain ⟨x25, ex25⟩ : ∃ q : Int32, q = v3_l2 + Int32.ofInt (-8) := ⟨_, rfl⟩
          refine lv_iinc (v := x25) (lv' := [(2, .int x25), (0, .ref (ad 1)), (1, .int p1)]) hx hb dX3_append_40 hl (k := 0) rfl ex25.symm (by decide) rfl (fun ls hl => ?_)
          have hx25 := r_inc ex25 (by decide) (by omega) (by omega)
          refine lv_goto (tgt := 3) hx hb dX3_append_43 (by decide) ?_
          exact ih3 f H locs ls x25 x22 (by omega) (by omega) hT hP hD hS (lv_sub hl [0, 1, 2] rfl)
  refine lv_bipush (v := 24) hx hb dX3_append_0 (by decide) ?_
  refine lv_istore_n (lv' := [(2, .int 24), (0, .ref (ad 1)), (1, .int p1)]) hx hb dX3_append_2 rfl hl (by decide) rfl (fun ls hl => ?_)
  have ttl_24 := tl_24
  exact j3 (Int.toNat ((24 : Int32).toInt - (-9))) f H locs ls (24 : Int32) rby (by omega) (by omega) hT hP hD hS (lv_sub hl [0, 1, 2] rfl)
set_option maxHeartbeats 4000000 in
set_option maxRecDepth 100000 in
theorem s_X8_feed_0 (l : Launch) (B0 : Nat) (adK adV : Nat → Nat) (D : va_G) (cy : Nat → ClassId) (ad : Nat → Nat) (fr0 : Nat → va_E) (tx : Int32) (rby : Int32) (rnx : Int32) (f : Nat → va_E) (hT : TYx ad cy fr0 tx rby rnx f) (p1 : Int32) (p2 : Int32) (p3 : Int32) (p4 : Int32) (p5 : Int32) (sz : Nat) : TtI l yX8_feed wsX8_feed 1 22 [.ref (ad 0), .int p1, .int p2, .int p3, .int p4, .int p5] B0 adK adV D cy ad f sz (fun (r : Int32) (g : Nat → va_E) => (-1 ≤ r.toInt ∧ r.toInt ≤ 1600) ∧ (∃ (rby' : Int32), TYx ad cy fr0 tx rby' rnx g)) := by
  refine TtI.of (cc := cX8_feed) (maxL := 6) (ty := .int) (own := RX8) (by decide) rfl (Nat.le_of_ble_eq_true rfl) rfl ?_
  intro p e s m below meth c A ls hx hb hr hml hts hown hlk hK hE hP hD hS hA hAB hl
  have hl : lv_has ls 6 [(0, .ref (ad 0)), (1, .int p1), (2, .int p2), (3, .int p3), (4, .int p4), (5, .int p5)] := hl
  refine st0 (fun H locs hP hS => ?_) hP hS
  refine lv_aload_n hx hb dX8_feed_0 rfl (lv_at hl 0 rfl) ?_
  obtain ⟨t1, x3, x4, e6, h2, h5⟩ := (show okX8 ad tx 0 (f 0) from hT.1 0 (by decide))
  refine va_get (D := D) (cl := vwCl) (ci := 8) (v := .ref (ad 1)) (C := RX8) (T := TX8) (N := 13) hx hb hts in_X8_feed_X8 hown hK hP 0 (wl_at (by decide) e6) rfl 0 (by decide) (hts (.fieldLink RX8 10 "EightReasons" "reader" "LEightReasons$Reader;") (List.mem_of_getElem? (i := 1) rfl)) (fun _ h9 => h9) rfl dX8_feed_1 ?_
  obtain ⟨x7, x8, t10, x12, x14, x15, x16, y17, e18, h9, h11, h13⟩ := (show okX3 ad rby rnx 1 (f 1) from hT.1 1 (by decide))
  refine va_get (D := D) (cl := vwCl) (ci := 3) (v := .int rby) (C := RX3) (T := TX3) (N := 13) hx hb hts in_X8_feed_X3 hown hK hP 1 (wl_at (by decide) e18) rfl 2 (by decide) (hts (.fieldLink RX8 69 "EightReasons$Reader" "bytes" "I") (List.mem_of_getElem? (i := 2) rfl)) (fun _ h9 => h9) rfl dX8_feed_4 ?_
  refine lv_bipush (v := 20) hx hb dX8_feed_7 (by decide) ?_
  have ttl_20 := tl_20
  refine lv_iadd hx hb dX8_feed_9 ?_
  refine lv_topi (fun x19 ex19 => ?_)
  have hx19 := r_add ex19 (by omega) (by omega)
  refine lv_sipush (v := 1600) hx hb dX8_feed_10 (by decide) ?_
  have ttl_1600 := tl_1600
  refine lv_icmp_le (tgt := 18) hx hb dX8_feed_13 (by decide) (fun c20 => ?_) (fun c20 => ?_)
  · have kc20 := c_le c20
    refine lv_aload_n hx hb dX8_feed_18 rfl (lv_at hl 0 rfl) ?_
    refine va_get (D := D) (cl := vwCl) (ci := 8) (v := .ref (ad 1)) (C := RX8) (T := TX8) (N := 13) hx hb hts in_X8_feed_X8 hown hK hP 0 (wl_at (by decide) e6) rfl 0 (by decide) (hts (.fieldLink RX8 10 "EightReasons" "reader" "LEightReasons$Reader;") (List.mem_of_getElem? (i := 1) rfl)) (fun _ h9 => h9) rfl dX8_feed_19 ?_
    refine lv_iload_n hx hb dX8_feed_22 rfl (lv_at hl 1 rfl) ?_
    refine tVV (As := [.int p1]) (rest := []) (i := 1) ⟨hx, hb, hml, hown, hts⟩ hK hE hP hD hS hA hAB (s_X3_append_0 l B0 adK adV D cy ad fr0 tx rby rnx f hT p1 _) (cwV 1 hts gX8_feed_X3_append rfl rfl rfl (by decide +kernel) ⟨Nat.le_of_ble_eq_true rfl, Nat.le_of_ble_eq_true rfl⟩) (by decide) 3 e18 rfl rfl hl.1 rfl (Nat.le_of_ble_eq_true rfl) dX8_feed_23 ⟨Nat.le_of_ble_eq_true rfl, Nat.le_of_ble_eq_true rfl⟩ (fun f H locs hw hP hD hS => ?_)
    obtain ⟨hrs, x21, hT⟩ := hw
    refine lv_aload_n hx hb dX8_feed_26 rfl (lv_at hl 0 rfl) ?_
    obtain ⟨t22, x24, x25, e27, h23, h26⟩ := (show okX8 ad tx 0 (f 0) from hT.1 0 (by decide))
    refine va_get (D := D) (cl := vwCl) (ci := 8) (v := .ref (ad 1)) (C := RX8) (T := TX8) (N := 13) hx hb hts in_X8_feed_X8 hown hK hP 0 (wl_at (by decide) e27) rfl 0 (by decide) (hts (.fieldLink RX8 10 "EightReasons" "reader" "LEightReasons$Reader;") (List.mem_of_getElem? (i := 1) rfl)) (fun _ h9 => h9) rfl dX8_feed_27 ?_
    refine lv_iload_n hx hb dX8_feed_30 rfl (lv_at hl 2 rfl) ?_
    obtain ⟨x28, x29, t31, x33, x35, x36, x37, y38, e39, h30, h32, h34⟩ := (show okX3 ad x21 rnx 1 (f 1) from hT.1 1 (by decide))
    refine tVV (As := [.int p2]) (rest := []) (i := 1) ⟨hx, hb, hml, hown, hts⟩ hK hE hP hD hS hA hAB (s_X3_append_0 l B0 adK adV D cy ad fr0 tx x21 rnx f hT p2 _) (cwV 1 hts gX8_feed_X3_append rfl rfl rfl (by decide +kernel) ⟨Nat.le_of_ble_eq_true rfl, Nat.le_of_ble_eq_true rfl⟩) (by decide) 3 e39 rfl rfl hl.1 rfl (Nat.le_of_ble_eq_true rfl) dX8_feed_31 ⟨Nat.le_of_ble_eq_true rfl, Nat.le_of_ble_eq_true rfl⟩ (fun f H locs hw hP hD hS => ?_)
    obtain ⟨hrs, x40, hT⟩ := hw
    refine lv_aload_n hx hb dX8_feed_34 rfl (lv_at hl 0 rfl) ?_
    obtain ⟨t41, x43, x44, e46, h42, h45⟩ := (show okX8 ad tx 0 (f 0) from hT.1 0 (by decide))
    refine va_get (D := D) (cl := vwCl) (ci := 8) (v := .ref (ad 1)) (C := RX8) (T := TX8) (N := 13) hx hb hts in_X8_feed_X8 hown hK hP 0 (wl_at (by decide) e46) rfl 0 (by decide) (hts (.fieldLink RX8 10 "EightReasons" "reader" "LEightReasons$Reader;") (List.mem_of_getElem? (i := 1) rfl)) (fun _ h9 => h9) rfl dX8_feed_35 ?_
    refine lv_iload_n hx hb dX8_feed_38 rfl (lv_at hl 3 rfl) ?_
    obtain ⟨x47, x48, t50, x52, x54, x55, x56, y57, e58, h49, h51, h53⟩ := (show okX3 ad x40 rnx 1 (f 1) from hT.1 1 (by decide))
    refine tVV (As := [.int p3]) (rest := []) (i := 1) ⟨hx, hb, hml, hown, hts⟩ hK hE hP hD hS hA hAB (s_X3_append_0 l B0 adK adV D cy ad fr0 tx x40 rnx f hT p3 _) (cwV 1 hts gX8_feed_X3_append rfl rfl rfl (by decide +kernel) ⟨Nat.le_of_ble_eq_true rfl, Nat.le_of_ble_eq_true rfl⟩) (by decide) 3 e58 rfl rfl hl.1 rfl (Nat.le_of_ble_eq_true rfl) dX8_feed_39 ⟨Nat.le_of_ble_eq_true rfl, Nat.le_of_ble_eq_true rfl⟩ (fun f H locs hw hP hD hS => ?_)
    obtain ⟨hrs, x59, hT⟩ := hw
    refine lv_aload_n hx hb dX8_feed_42 rfl (lv_at hl 0 rfl) ?_
    obtain ⟨t60, x62, x63, e65, h61, h64⟩ := (show okX8 ad tx 0 (f 0) from hT.1 0 (by decide))
    refine va_get (D := D) (cl := vwCl) (ci := 8) (v := .ref (ad 1)) (C := RX8) (T := TX8) (N := 13) hx hb hts in_X8_feed_X8 hown hK hP 0 (wl_at (by decide) e65) rfl 0 (by decide) (hts (.fieldLink RX8 10 "EightReasons" "reader" "LEightReasons$Reader;") (List.mem_of_getElem? (i := 1) rfl)) (fun _ h9 => h9) rfl dX8_feed_43 ?_
    refine lv_iload hx hb dX8_feed_46 (lv_at hl 4 rfl) ?_
    obtain ⟨x66, x67, t69, x71, x73, x74, x75, y76, e77, h68, h70, h72⟩ := (show okX3 ad x59 rnx 1 (f 1) from hT.1 1 (by decide))
    refine tVV (As := [.int p4]) (rest := []) (i := 1) ⟨hx, hb, hml, hown, hts⟩ hK hE hP hD hS hA hAB (s_X3_append_0 l B0 adK adV D cy ad fr0 tx x59 rnx f hT p4 _) (cwV 1 hts gX8_feed_X3_append rfl rfl rfl (by decide +kernel) ⟨Nat.le_of_ble_eq_true rfl, Nat.le_of_ble_eq_true rfl⟩) (by decide) 3 e77 rfl rfl hl.1 rfl (Nat.le_of_ble_eq_true rfl) dX8_feed_48 ⟨Nat.le_of_ble_eq_true rfl, Nat.le_of_ble_eq_true rfl⟩ (fun f H locs hw hP hD hS => ?_)
    obtain ⟨hrs, x78, hT⟩ := hw
    refine lv_aload_n hx hb dX8_feed_51 rfl (lv_at hl 0 rfl) ?_
    obtain ⟨t79, x81, x82, e84, h80, h83⟩ := (show okX8 ad tx 0 (f 0) from hT.1 0 (by decide))
    refine va_get (D := D) (cl := vwCl) (ci := 8) (v := .ref (ad 1)) (C := RX8) (T := TX8) (N := 13) hx hb hts in_X8_feed_X8 hown hK hP 0 (wl_at (by decide) e84) rfl 0 (by decide) (hts (.fieldLink RX8 10 "EightReasons" "reader" "LEightReasons$Reader;") (List.mem_of_getElem? (i := 1) rfl)) (fun _ h9 => h9) rfl dX8_feed_52 ?_
    refine lv_iload hx hb dX8_feed_55 (lv_at hl 5 rfl) ?_
    obtain ⟨x85, x86, t88, x90, x92, x93, x94, y95, e96, h87, h89, h91⟩ := (show okX3 ad x78 rnx 1 (f 1) from hT.1 1 (by decide))
    refine tVV (As := [.int p5]) (rest := []) (i := 1) ⟨hx, hb, hml, hown, hts⟩ hK hE hP hD hS hA hAB (s_X3_append_0 l B0 adK adV D cy ad fr0 tx x78 rnx f hT p5 _) (cwV 1 hts gX8_feed_X3_append rfl rfl rfl (by decide +kernel) ⟨Nat.le_of_ble_eq_true rfl, Nat.le_of_ble_eq_true rfl⟩) (by decide) 3 e96 rfl rfl hl.1 rfl (Nat.le_of_ble_eq_true rfl) dX8_feed_57 ⟨Nat.le_of_ble_eq_true rfl, Nat.le_of_ble_eq_true rfl⟩ (fun f H locs hw hP hD hS => ?_)
    obtain ⟨hrs, x97, hT⟩ := hw
    refine lv_aload_n hx hb dX8_feed_60 rfl (lv_at hl 0 rfl) ?_
    obtain ⟨t98, x100, x101, e103, h99, h102⟩ := (show okX8 ad tx 0 (f 0) from hT.1 0 (by decide))
    refine va_get (D := D) (cl := vwCl) (ci := 8) (v := .ref (ad 1)) (C := RX8) (T := TX8) (N := 13) hx hb hts in_X8_feed_X8 hown hK hP 0 (wl_at (by decide) e103) rfl 0 (by decide) (hts (.fieldLink RX8 10 "EightReasons" "reader" "LEightReasons$Reader;") (List.mem_of_getElem? (i := 1) rfl)) (fun _ h9 => h9) rfl dX8_feed_61 ?_
    obtain ⟨x104, x105, t107, x109, x111, x112, x113, y114, e115, h106, h108, h110⟩ := (show okX3 ad x97 rnx 1 (f 1) from hT.1 1 (by decide))
    refine va_get (D := D) (cl := vwCl) (ci := 3) (v := .int x97) (C := RX3) (T := TX3) (N := 13) hx hb hts in_X8_feed_X3 hown hK hP 1 (wl_at (by decide) e115) rfl 2 (by decide) (hts (.fieldLink RX8 69 "EightReasons$Reader" "bytes" "I") (List.mem_of_getElem? (i := 2) rfl)) (fun _ h9 => h9) rfl dX8_feed_64 ?_
    exact tI hx hb hr hlk rfl hP hS ⟨(by omega), ⟨x97, hT⟩⟩ dX8_feed_67
  · have kc20 := c_nle c20
    refine lv_iconst (v := (-1)) hx hb dX8_feed_16 (by decide) ?_
    have ttl_m1 := tl_m1
    exact tI hx hb hr hlk rfl hP hS ⟨(by omega), ⟨rby, hT⟩⟩ dX8_feed_17
set_option maxHeartbeats 4000000 in
set_option maxRecDepth 100000 in
theorem s_X8_end_0 (l : Launch) (B0 : Nat) (adK adV : Nat → Nat) (D : va_G) (cy : Nat → ClassId) (ad : Nat → Nat) (fr0 : Nat → va_E) (tx : Int32) (rby : Int32) (rnx : Int32) (f : Nat → va_E) (hT : TYx ad cy fr0 tx rby rnx f) (p1 : Int32) (sz : Nat) : TtI l yX8_end wsX8_end 0 0 [.ref (ad 0), .int p1] B0 adK adV D cy ad f sz (fun (r : Int32) (g : Nat → va_E) => (-1 ≤ r.toInt ∧ r.toInt ≤ 1600) ∧ (∃ (rby' : Int32), TYx ad cy fr0 tx rby' rnx g)) := by
  refine TtI.of (cc := cX8_end) (maxL := 2) (ty := .int) (own := RX8) (by decide) rfl (Nat.le_of_ble_eq_true rfl) rfl ?_
  intro p e s m below meth c A ls hx hb hr hml hts hown hlk hK hE hP hD hS hA hAB hl
  have hl : lv_has ls 2 [(0, .ref (ad 0)), (1, .int p1)] := hl
  refine st0 (fun H locs hP hS => ?_) hP hS
  refine lv_iload_n hx hb dX8_end_0 rfl (lv_at hl 1 rfl) ?_
  have ttl_0 := tl_0
  refine lv_if_lt (tgt := 15) hx hb dX8_end_1 (by decide) (fun c1 => ?_) (fun c1 => ?_)
  · have kc1 := c_lt c1
    refine lv_iconst (v := (-1)) hx hb dX8_end_15 (by decide) ?_
    have ttl_m1 := tl_m1
    exact tI hx hb hr hlk rfl hP hS ⟨(by omega), ⟨rby, hT⟩⟩ dX8_end_16
  · have kc1 := c_nlt c1
    refine lv_iload_n hx hb dX8_end_4 rfl (lv_at hl 1 rfl) ?_
    refine lv_aload_n hx hb dX8_end_5 rfl (lv_at hl 0 rfl) ?_
    obtain ⟨t2, x4, x5, e7, h3, h6⟩ := (show okX8 ad tx 0 (f 0) from hT.1 0 (by decide))
    refine va_get (D := D) (cl := vwCl) (ci := 8) (v := .ref (ad 1)) (C := RX8) (T := TX8) (N := 13) hx hb hts in_X8_end_X8 hown hK hP 0 (wl_at (by decide) e7) rfl 0 (by decide) (hts (.fieldLink RX8 10 "EightReasons" "reader" "LEightReasons$Reader;") (List.mem_of_getElem? (i := 1) rfl)) (fun _ h9 => h9) rfl dX8_end_6 ?_
    obtain ⟨x8, x9, t11, x13, x15, x16, x17, y18, e19, h10, h12, h14⟩ := (show okX3 ad rby rnx 1 (f 1) from hT.1 1 (by decide))
    refine va_get (D := D) (cl := vwCl) (ci := 3) (v := .int rby) (C := RX3) (T := TX3) (N := 13) hx hb hts in_X8_end_X3 hown hK hP 1 (wl_at (by decide) e19) rfl 2 (by decide) (hts (.fieldLink RX8 69 "EightReasons$Reader" "bytes" "I") (List.mem_of_getElem? (i := 2) rfl)) (fun _ h9 => h9) rfl dX8_end_9 ?_
    refine lv_icmp_le (tgt := 17) hx hb dX8_end_12 (by decide) (fun c20 => ?_) (fun c20 => ?_)
    · have kc20 := c_le c20
      refine lv_aload_n hx hb dX8_end_17 rfl (lv_at hl 0 rfl) ?_
      refine va_get (D := D) (cl := vwCl) (ci := 8) (v := .ref (ad 1)) (C := RX8) (T := TX8) (N := 13) hx hb hts in_X8_end_X8 hown hK hP 0 (wl_at (by decide) e7) rfl 0 (by decide) (hts (.fieldLink RX8 10 "EightReasons" "reader" "LEightReasons$Reader;") (List.mem_of_getElem? (i := 1) rfl)) (fun _ h9 => h9) rfl dX8_end_18 ?_
      refine lv_iload_n hx hb dX8_end_21 rfl (lv_at hl 1 rfl) ?_
      refine va_put (D := D) (cl := vwCl) (ci := 3) (v := .int p1) (ty := tyX3 2) (C := RX3) (T := TX3) (N := 13) hx hb hts in_X8_end_X3 tyX3 tyX3_ok nmX3 hown hK hP hD hS 1 (wl_at (by decide) e19) rfl 2 (by decide) (hts (.fieldLink RX8 69 "EightReasons$Reader" "bytes" "I") (List.mem_of_getElem? (i := 2) rfl)) (fun _ h9 => h9) rfl (tyX3_ok 2 (by decide)) rfl rfl (Nat.le_of_ble_eq_true rfl) dX8_end_22 (fun H locs hP hD hS => ?_)
      obtain ⟨f, hT, hP, hD, e21, hj22⟩ := stU (by decide) (TYx.p1 hT (show OKx ad cy tx p1 rnx 1 _ from (show okX3 ad p1 rnx 1 _ from ⟨x8, x9, t11, x13, x15, x16, x17, y18, rfl, by omega, h12, by omega⟩))) hP hD
      have e23 := (hj22 0 (by decide)).trans e7
      refine lv_iload_n hx hb dX8_end_25 rfl (lv_at hl 1 rfl) ?_
      exact tI hx hb hr hlk rfl hP hS ⟨(by omega), ⟨p1, hT⟩⟩ dX8_end_26
    · have kc20 := c_nle c20
      refine lv_iconst (v := (-1)) hx hb dX8_end_15 (by decide) ?_
      have ttl_m1 := tl_m1
      exact tI hx hb hr hlk rfl hP hS ⟨(by omega), ⟨rby, hT⟩⟩ dX8_end_16
set_option maxHeartbeats 4000000 in
set_option maxRecDepth 100000 in
theorem s_X0_forget_0 (l : Launch) (B0 : Nat) (adK adV : Nat → Nat) (D : va_G) (cy : Nat → ClassId) (ad : Nat → Nat) (fr0 : Nat → va_E) (tx : Int32) (rby : Int32) (rnx : Int32) (f : Nat → va_E) (hT : TYx ad cy fr0 tx rby rnx f) (sz : Nat) : TtV l yX0_forget wsX0_forget 0 0 [.ref (ad 5)] B0 adK adV D cy ad f sz (fun (g : Nat → va_E) => True ∧ (TYx ad cy fr0 tx rby rnx g)) := by
  refine TtV.of (cc := cX0_forget) (maxL := 1) (own := RX0) (by decide) rfl (Nat.le_of_ble_eq_true rfl) rfl ?_
  intro p e s m below meth c A ls hx hb hr hml hts hown hlk hK hE hP hD hS hA hAB hl
  have hl : lv_has ls 1 [(0, .ref (ad 5))] := hl
  refine st0 (fun H locs hP hS => ?_) hP hS
  refine lv_aload_n hx hb dX0_forget_0 rfl (lv_at hl 0 rfl) ?_
  refine lv_iconst (v := 0) hx hb dX0_forget_1 (by decide) ?_
  obtain ⟨x1, x3, x4, e5, h2⟩ := (show okX0 ad 5 (f 5) from hT.1 5 (by decide))
  refine va_put (D := D) (cl := vwCl) (ci := 0) (v := .int 0) (ty := tyX0 2) (C := RX0) (T := TX0) (N := 4) hx hb hts in_X0_forget_X0 tyX0 tyX0_ok nmX0 hown hK hP hD hS 5 (wl_at (by decide) e5) rfl 2 (by decide) (hts (.fieldLink RX0 26 "EightReasons$Acts" "undoable" "I") (List.mem_of_getElem? (i := 1) rfl)) (fun _ h9 => h9) rfl (tyX0_ok 2 (by decide)) rfl rfl (Nat.le_of_ble_eq_true rfl) dX0_forget_2 (fun H locs hP hD hS => ?_)
  obtain ⟨f, hT, hP, hD, e6, hj7⟩ := stU (by decide) (TYx.up hT (by decide) (show OKx ad cy tx rby rnx 5 _ from (show okX0 ad 5 _ from ⟨x1, (0 : Int32), x4, rfl, by omega⟩))) hP hD
  refine lv_aload_n hx hb dX0_forget_5 rfl (lv_at hl 0 rfl) ?_
  refine lv_iconst (v := 0) hx hb dX0_forget_6 (by decide) ?_
  refine va_put (D := D) (cl := vwCl) (ci := 0) (v := .int 0) (ty := tyX0 3) (C := RX0) (T := TX0) (N := 4) hx hb hts in_X0_forget_X0 tyX0 tyX0_ok nmX0 hown hK hP hD hS 5 (wl_at (by decide) e6) rfl 3 (by decide) (hts (.fieldLink RX0 35 "EightReasons$Acts" "redoable" "I") (List.mem_of_getElem? (i := 2) rfl)) (fun _ h9 => h9) rfl (tyX0_ok 3 (by decide)) rfl rfl (Nat.le_of_ble_eq_true rfl) dX0_forget_7 (fun H locs hP hD hS => ?_)
  obtain ⟨f, hT, hP, hD, e8, hj9⟩ := stU (by decide) (TYx.up hT (by decide) (show OKx ad cy tx rby rnx 5 _ from (show okX0 ad 5 _ from ⟨x1, (0 : Int32), (0 : Int32), rfl, by omega⟩))) hP hD
  exact tV hx hb hr hlk hP hS ⟨trivial, hT⟩ dX0_forget_10
set_option maxHeartbeats 4000000 in
set_option maxRecDepth 100000 in
theorem s_X3_exchange_0 (l : Launch) (B0 : Nat) (adK adV : Nat → Nat) (D : va_G) (cy : Nat → ClassId) (ad : Nat → Nat) (fr0 : Nat → va_E) (tx : Int32) (rby : Int32) (rnx : Int32) (f : Nat → va_E) (hT : TYx ad cy fr0 tx rby rnx f) (q1 : Nat) (hq1 : isSuit q1) (sz : Nat) : TtR l yX3_exchange wsX3_exchange 0 0 [.ref (ad 1), .ref (ad q1)] B0 adK adV D cy ad f sz (fun (g : Nat → va_E) => True ∧ (TYx ad cy fr0 tx rby rnx g)) (fun ra _ => ∃ q, isSuit q ∧ ra = ad q) := by
  refine TtR.of (cc := cX3_exchange) (maxL := 3) (ty := (.object "EightReasons$Suit")) (own := RX3) (by decide) rfl (Nat.le_of_ble_eq_true rfl) rfl ?_
  intro p e s m below meth c A ls hx hb hr hml hts hown hlk hK hE hP hD hS hA hAB hl
  have hl : lv_has ls 3 [(0, .ref (ad 1)), (1, .ref (ad q1))] := hl
  refine st0 (fun H locs hP hS => ?_) hP hS
  refine lv_aload_n hx hb dX3_exchange_0 rfl (lv_at hl 0 rfl) ?_
  obtain ⟨x1, x2, t4, x6, x8, x9, x10, y11, e12, h3, h5, h7⟩ := (show okX3 ad rby rnx 1 (f 1) from hT.1 1 (by decide))
  refine va_get (D := D) (cl := vwCl) (ci := 3) (v := .ref (ad t4)) (C := RX3) (T := TX3) (N := 13) hx hb hts in_X3_exchange_X3 hown hK hP 1 (wl_at (by decide) e12) rfl 4 (by decide) (hts (.fieldLink RX3 22 "EightReasons$Reader" "suit" "LEightReasons$Suit;") (List.mem_of_getElem? (i := 1) rfl)) (fun _ h9 => h9) rfl dX3_exchange_1 ?_
  refine lv_astore_n (lv' := [(2, .ref (ad t4)), (0, .ref (ad 1)), (1, .ref (ad q1))]) hx hb dX3_exchange_4 rfl hl (by decide) rfl (fun ls hl => ?_)
  refine lv_aload_n hx hb dX3_exchange_5 rfl (lv_at hl 1 rfl) ?_
  refine lv_aload_n hx hb dX3_exchange_6 rfl (lv_at hl 2 rfl) ?_
  refine va_put (D := D) (cl := vwCl) (ci := 3) (v := .ref (ad q1)) (ty := tyX3 4) (C := RX3) (T := TX3) (N := 13) hx hb hts in_X3_exchange_X3 tyX3 tyX3_ok nmX3 hown hK hP hD hS 1 (wl_at (by decide) e12) rfl 4 (by decide) (hts (.fieldLink RX3 22 "EightReasons$Reader" "suit" "LEightReasons$Suit;") (List.mem_of_getElem? (i := 1) rfl)) (fun _ h9 => h9) rfl (tyX3_ok 4 (by decide)) rfl rfl (Nat.le_of_ble_eq_true rfl) dX3_exchange_7 (fun H locs hP hD hS => ?_)
  obtain ⟨f, hT, hP, hD, e13, hj14⟩ := stU (by decide) (TYx.up hT (by decide) (show OKx ad cy tx rby rnx 1 _ from (show okX3 ad rby rnx 1 _ from ⟨x1, x2, q1, x6, x8, x9, x10, y11, rfl, by omega, hq1, by omega⟩))) hP hD
  refine lv_aload_n hx hb dX3_exchange_10 rfl (lv_at hl 0 rfl) ?_
  exact tR hx hb hr hlk hP hS ⟨trivial, hT⟩ ⟨t4, h5, rfl⟩ dX3_exchange_11
set_option maxHeartbeats 4000000 in
set_option maxRecDepth 100000 in
theorem s_X3_isBlank_0 (l : Launch) (B0 : Nat) (adK adV : Nat → Nat) (D : va_G) (cy : Nat → ClassId) (ad : Nat → Nat) (f : Nat → va_E) (p0 : Int32) (sz : Nat) : TtI l yX3_isBlank wsX3_isBlank 0 0 [.int p0] B0 adK adV D cy ad f sz (fun (r : Int32) (g : Nat → va_E) => ((r = 1) ∨ (r = 0)) ∧ (f = g)) := by
  refine TtI.of (cc := cX3_isBlank) (maxL := 1) (ty := .boolean) (own := RX3) (by decide) rfl (Nat.le_of_ble_eq_true rfl) rfl ?_
  intro p e s m below meth c A ls hx hb hr hml hts hown hlk hK hE hP hD hS hA hAB hl
  have hl : lv_has ls 1 [(0, .int p0)] := hl
  refine st0 (fun H locs hP hS => ?_) hP hS
  have j12 : ∀ (H : Heap) (locs : List Loc) (ls : Array Slot), (10 ≤ p0.toInt ∧ p0.toInt ≤ 32) → (va_P D vwCl (wl ad f) H) → (va_D A (wl ad f)) → (va_S A s.heap H locs) → (lv_has ls 1 [(0, .int p0)]) → W p l e (rmO 0 0 0 0) s m ([.int p0] : List Value).toArray below meth c H locs 0 0 (MQ below (va_Qi (fun (r : Int32) (g : Nat → va_E) => ((r = 1) ∨ (r = 0)) ∧ (f = g)) (fun g t => PstT D ad g t) A) ([.int p0] : List Value).toArray s 0 0 A) (F0 m 12 ls []) := by
    intro H locs ls hv12_l0 hP hD hS hl
    refine lv_iconst (v := 1) hx hb dX3_isBlank_12 (by decide) ?_
    refine lv_goto (tgt := 17) hx hb dX3_isBlank_13 (by decide) ?_
    have ttl_1 := tl_1
    exact tI hx hb hr hlk rfl hP hS ⟨(Or.inl rfl), rfl⟩ dX3_isBlank_17
  refine lv_iload_n hx hb dX3_isBlank_0 rfl (lv_at hl 0 rfl) ?_
  refine lv_bipush (v := 32) hx hb dX3_isBlank_1 (by decide) ?_
  have ttl_32 := tl_32
  refine lv_icmp_eq (tgt := 12) hx hb dX3_isBlank_3 (by decide) (fun c1 => ?_) (fun c1 => ?_)
  · have kc1 := c_eq c1
    exact j12 H locs ls (by omega) hP hD hS (lv_sub hl [0] rfl)
  · have kc1 := c_ne c1
    refine lv_iload_n hx hb dX3_isBlank_6 rfl (lv_at hl 0 rfl) ?_
    refine lv_bipush (v := 10) hx hb dX3_isBlank_7 (by decide) ?_
    have ttl_10 := tl_10
    refine lv_icmp_ne (tgt := 16) hx hb dX3_isBlank_9 (by decide) (fun c2 => ?_) (fun c2 => ?_)
    · have kc2 := c_ne c2
      refine lv_iconst (v := 0) hx hb dX3_isBlank_16 (by decide) ?_
      have ttl_0 := tl_0
      exact tI hx hb hr hlk rfl hP hS ⟨(Or.inr rfl), rfl⟩ dX3_isBlank_17
    · have kc2 := c_eq c2
      exact j12 H locs ls (by omega) hP hD hS (lv_sub hl [0] rfl)
set_option maxHeartbeats 4000000 in
set_option maxRecDepth 100000 in
theorem s_X3_isDigit_0 (l : Launch) (B0 : Nat) (adK adV : Nat → Nat) (D : va_G) (cy : Nat → ClassId) (ad : Nat → Nat) (f : Nat → va_E) (p0 : Int32) (sz : Nat) : TtI l yX3_isDigit wsX3_isDigit 0 0 [.int p0] B0 adK adV D cy ad f sz (fun (r : Int32) (g : Nat → va_E) => ((r = 1) ∨ (r = 0)) ∧ (f = g)) := by
  refine TtI.of (cc := cX3_isDigit) (maxL := 1) (ty := .boolean) (own := RX3) (by decide) rfl (Nat.le_of_ble_eq_true rfl) rfl ?_
  intro p e s m below meth c A ls hx hb hr hml hts hown hlk hK hE hP hD hS hA hAB hl
  have hl : lv_has ls 1 [(0, .int p0)] := hl
  refine st0 (fun H locs hP hS => ?_) hP hS
  refine lv_iload_n hx hb dX3_isDigit_0 rfl (lv_at hl 0 rfl) ?_
  refine lv_bipush (v := 48) hx hb dX3_isDigit_1 (by decide) ?_
  have ttl_48 := tl_48
  refine lv_icmp_lt (tgt := 16) hx hb dX3_isDigit_3 (by decide) (fun c1 => ?_) (fun c1 => ?_)
  · have kc1 := c_lt c1
    refine lv_iconst (v := 0) hx hb dX3_isDigit_16 (by decide) ?_
    have ttl_0 := tl_0
    exact tI hx hb hr hlk rfl hP hS ⟨(Or.inr rfl), rfl⟩ dX3_isDigit_17
  · have kc1 := c_nlt c1
    refine lv_iload_n hx hb dX3_isDigit_6 rfl (lv_at hl 0 rfl) ?_
    refine lv_bipush (v := 57) hx hb dX3_isDigit_7 (by decide) ?_
    have ttl_57 := tl_57
    refine lv_icmp_gt (tgt := 16) hx hb dX3_isDigit_9 (by decide) (fun c2 => ?_) (fun c2 => ?_)
    · have kc2 := c_lt c2
      refine lv_iconst (v := 0) hx hb dX3_isDigit_16 (by decide) ?_
      have ttl_0 := tl_0
      exact tI hx hb hr hlk rfl hP hS ⟨(Or.inr rfl), rfl⟩ dX3_isDigit_17
    · have kc2 := c_nlt c2
      refine lv_iconst (v := 1) hx hb dX3_isDigit_12 (by decide) ?_
      refine lv_goto (tgt := 17) hx hb dX3_isDigit_13 (by decide) ?_
      have ttl_1 := tl_1
      exact tI hx hb hr hlk rfl hP hS ⟨(Or.inl rfl), rfl⟩ dX3_isDigit_17
set_option maxHeartbeats 4000000 in
set_option maxRecDepth 100000 in
theorem s_X3_isLetter_0 (l : Launch) (B0 : Nat) (adK adV : Nat → Nat) (D : va_G) (cy : Nat → ClassId) (ad : Nat → Nat) (f : Nat → va_E) (p0 : Int32) (sz : Nat) : TtI l yX3_isLetter wsX3_isLetter 0 0 [.int p0] B0 adK adV D cy ad f sz (fun (r : Int32) (g : Nat → va_E) => ((r = 1) ∨ (r = 0)) ∧ (f = g)) := by
  refine TtI.of (cc := cX3_isLetter) (maxL := 1) (ty := .boolean) (own := RX3) (by decide) rfl (Nat.le_of_ble_eq_true rfl) rfl ?_
  intro p e s m below meth c A ls hx hb hr hml hts hown hlk hK hE hP hD hS hA hAB hl
  have hl : lv_has ls 1 [(0, .int p0)] := hl
  refine st0 (fun H locs hP hS => ?_) hP hS
  refine lv_iload_n hx hb dX3_isLetter_0 rfl (lv_at hl 0 rfl) ?_
  refine lv_bipush (v := 97) hx hb dX3_isLetter_1 (by decide) ?_
  have ttl_97 := tl_97
  refine lv_icmp_lt (tgt := 16) hx hb dX3_isLetter_3 (by decide) (fun c1 => ?_) (fun c1 => ?_)
  · have kc1 := c_lt c1
    refine lv_iconst (v := 0) hx hb dX3_isLetter_16 (by decide) ?_
    have ttl_0 := tl_0
    exact tI hx hb hr hlk rfl hP hS ⟨(Or.inr rfl), rfl⟩ dX3_isLetter_17
  · have kc1 := c_nlt c1
    refine lv_iload_n hx hb dX3_isLetter_6 rfl (lv_at hl 0 rfl) ?_
    refine lv_bipush (v := 122) hx hb dX3_isLetter_7 (by decide) ?_
    have ttl_122 := tl_122
    refine lv_icmp_gt (tgt := 16) hx hb dX3_isLetter_9 (by decide) (fun c2 => ?_) (fun c2 => ?_)
    · have kc2 := c_lt c2
      refine lv_iconst (v := 0) hx hb dX3_isLetter_16 (by decide) ?_
      have ttl_0 := tl_0
      exact tI hx hb hr hlk rfl hP hS ⟨(Or.inr rfl), rfl⟩ dX3_isLetter_17
    · have kc2 := c_nlt c2
      refine lv_iconst (v := 1) hx hb dX3_isLetter_12 (by decide) ?_
      refine lv_goto (tgt := 17) hx hb dX3_isLetter_13 (by decide) ?_
      have ttl_1 := tl_1
      exact tI hx hb hr hlk rfl hP hS ⟨(Or.inl rfl), rfl⟩ dX3_isLetter_17
set_option maxHeartbeats 4000000 in
set_option maxRecDepth 100000 in
theorem s_X3_takeNumber_0 (l : Launch) (B0 : Nat) (adK adV : Nat → Nat) (D : va_G) (cy : Nat → ClassId) (ad : Nat → Nat) (fr0 : Nat → va_E) (tx : Int32) (rby : Int32) (rnx : Int32) (f : Nat → va_E) (hT : TYx ad cy fr0 tx rby rnx f) (sz : Nat) : TtV l yX3_takeNumber wsX3_takeNumber 1 20 [.ref (ad 1)] B0 adK adV D cy ad f sz (fun (g : Nat → va_E) => True ∧ (∃ (rnx' : Int32), TYx ad cy fr0 tx rby rnx' g)) := by
  refine TtV.of (cc := cX3_takeNumber) (maxL := 2) (own := RX3) (by decide) rfl (Nat.le_of_ble_eq_true rfl) rfl ?_
  intro p e s m below meth c A ls hx hb hr hml hts hown hlk hK hE hP hD hS hA hAB hl
  have hl : lv_has ls 2 [(0, .ref (ad 1))] := hl
  refine st0 (fun H locs hP hS => ?_) hP hS
  have j118 : ∀ (f : Nat → va_E) (H : Heap) (locs : List Loc) (ls : Array Slot) (v118_l1 : Int32) (v118_p_rnx : Int32), (0 ≤ v118_l1.toInt ∧ v118_l1.toInt ≤ 1) → (TYx ad cy fr0 tx rby v118_p_rnx f) → (va_P D vwCl (wl ad f) H) → (va_D A (wl ad f)) → (va_S A s.heap H locs) → (lv_has ls 2 [(1, .int v118_l1), (0, .ref (ad 1))]) → W p l e (rmO 1 20 0 0) s m ([.ref (ad 1)] : List Value).toArray below meth c H locs 0 0 (MQ below (va_Qv (fun (g : Nat → va_E) => True ∧ (∃ (rnx' : Int32), TYx ad cy fr0 tx rby rnx' g)) (fun g t => PstT D ad g t) A) ([.ref (ad 1)] : List Value).toArray s 0 0 A) (F0 m 118 ls [.ref (ad 1)]) := by
    intro f H locs ls v118_l1 v118_p_rnx hv118_l1 hT hP hD hS hl
    refine lv_bipush (v := 17) hx hb dX3_takeNumber_118 (by decide) ?_
    refine lv_goto (tgt := 125) hx hb dX3_takeNumber_120 (by decide) ?_
    obtain ⟨x1, x2, t4, x6, x8, x9, x10, y11, e12, h3, h5, h7⟩ := (show okX3 ad rby v118_p_rnx 1 (f 1) from hT.1 1 (by decide))
    refine va_put (D := D) (cl := vwCl) (ci := 3) (v := .int 17) (ty := tyX3 10) (C := RX3) (T := TX3) (N := 13) hx hb hts in_X3_takeNumber_X3 tyX3 tyX3_ok nmX3 hown hK hP hD hS 1 (wl_at (by decide) e12) rfl 10 (by decide) (hts (.fieldLink RX3 67 "EightReasons$Reader" "kind" "I") (List.mem_of_getElem? (i := 6) rfl)) (fun _ h9 => h9) rfl (tyX3_ok 10 (by decide)) rfl rfl (Nat.le_of_ble_eq_true rfl) dX3_takeNumber_125 (fun H locs hP hD hS => ?_)
    obtain ⟨f, hT, hP, hD, e13, hj14⟩ := stU (by decide) (TYx.up hT (by decide) (show OKx ad cy tx rby v118_p_rnx 1 _ from (show okX3 ad rby v118_p_rnx 1 _ from ⟨x1, x2, t4, x6, x8, (17 : Int32), x10, y11, rfl, by omega, h5, by omega⟩))) hP hD
    exact tV hx hb hr hlk hP hS ⟨trivial, ⟨v118_p_rnx, hT⟩⟩ dX3_takeNumber_128
  have j99 : ∀ (f : Nat → va_E) (H : Heap) (locs : List Loc) (ls : Array Slot) (v99_s0 : Int32) (v99_p_rnx : Int32), (0 ≤ v99_s0.toInt ∧ v99_s0.toInt ≤ 1) → (TYx ad cy fr0 tx rby v99_p_rnx f) → (va_P D vwCl (wl ad f) H) → (va_D A (wl ad f)) → (va_S A s.heap H locs) → (lv_has ls 2 [(0, .ref (ad 1))]) → W p l e (rmO 1 20 0 0) s m ([.ref (ad 1)] : List Value).toArray below meth c H locs 0 0 (MQ below (va_Qv (fun (g : Nat → va_E) => True ∧ (∃ (rnx' : Int32), TYx ad cy fr0 tx rby rnx' g)) (fun g t => PstT D ad g t) A) ([.ref (ad 1)] : List Value).toArray s 0 0 A) (F0 m 99 ls [.int v99_s0]) := by
    intro f H locs ls v99_s0 v99_p_rnx hv99_s0 hT hP hD hS hl
    refine lv_istore_n (lv' := [(1, .int v99_s0), (0, .ref (ad 1))]) hx hb dX3_takeNumber_99 rfl hl (by decide) rfl (fun ls hl => ?_)
    refine lv_aload_n hx hb dX3_takeNumber_100 rfl (lv_at hl 1 rfl) ?_
    refine lv_iload_n hx hb dX3_takeNumber_101 rfl (lv_at hl 0 rfl) ?_
    have ttl_0 := tl_0
    refine lv_if_ne (tgt := 118) hx hb dX3_takeNumber_102 (by decide) (fun c15 => ?_) (fun c15 => ?_)
    · have kc15 := c_ne c15
      exact j118 f H locs ls v99_s0 v99_p_rnx (by omega) hT hP hD hS (lv_sub hl [0, 1] rfl)
    · have kc15 := c_eq c15
      refine lv_aload_n hx hb dX3_takeNumber_105 rfl (lv_at hl 1 rfl) ?_
      obtain ⟨x16, x17, t19, x21, x23, x24, x25, y26, e27, h18, h20, h22⟩ := (show okX3 ad rby v99_p_rnx 1 (f 1) from hT.1 1 (by decide))
      refine va_get (D := D) (cl := vwCl) (ci := 3) (v := .int v99_p_rnx) (C := RX3) (T := TX3) (N := 13) hx hb hts in_X3_takeNumber_X3 hown hK hP 1 (wl_at (by decide) e27) rfl 8 (by decide) (hts (.fieldLink RX3 61 "EightReasons$Reader" "next" "I") (List.mem_of_getElem? (i := 2) rfl)) (fun _ h9 => h9) rfl dX3_takeNumber_106 ?_
      refine lv_aload_n hx hb dX3_takeNumber_109 rfl (lv_at hl 1 rfl) ?_
      refine va_get (D := D) (cl := vwCl) (ci := 3) (v := .int x23) (C := RX3) (T := TX3) (N := 13) hx hb hts in_X3_takeNumber_X3 hown hK hP 1 (wl_at (by decide) e27) rfl 9 (by decide) (hts (.fieldLink RX3 77 "EightReasons$Reader" "at" "I") (List.mem_of_getElem? (i := 5) rfl)) (fun _ h9 => h9) rfl dX3_takeNumber_110 ?_
      refine lv_isub hx hb dX3_takeNumber_113 ?_
      refine lv_topi (fun x28 ex28 => ?_)
      refine lv_iconst (v := 4) hx hb dX3_takeNumber_114 (by decide) ?_
      have ttl_4 := tl_4
      refine lv_icmp_le (tgt := 123) hx hb dX3_takeNumber_115 (by decide) (fun c29 => ?_) (fun c29 => ?_)
      · have kc29 := c_le c29
        refine lv_bipush (v := 15) hx hb dX3_takeNumber_123 (by decide) ?_
        refine va_put (D := D) (cl := vwCl) (ci := 3) (v := .int 15) (ty := tyX3 10) (C := RX3) (T := TX3) (N := 13) hx hb hts in_X3_takeNumber_X3 tyX3 tyX3_ok nmX3 hown hK hP hD hS 1 (wl_at (by decide) e27) rfl 10 (by decide) (hts (.fieldLink RX3 67 "EightReasons$Reader" "kind" "I") (List.mem_of_getElem? (i := 6) rfl)) (fun _ h9 => h9) rfl (tyX3_ok 10 (by decide)) rfl rfl (Nat.le_of_ble_eq_true rfl) dX3_takeNumber_125 (fun H locs hP hD hS => ?_)
        obtain ⟨f, hT, hP, hD, e30, hj31⟩ := stU (by decide) (TYx.up hT (by decide) (show OKx ad cy tx rby v99_p_rnx 1 _ from (show okX3 ad rby v99_p_rnx 1 _ from ⟨x16, x17, t19, x21, x23, (15 : Int32), x25, y26, rfl, by omega, h20, by omega⟩))) hP hD
        exact tV hx hb hr hlk hP hS ⟨trivial, ⟨v99_p_rnx, hT⟩⟩ dX3_takeNumber_128
      · have kc29 := c_nle c29
        exact j118 f H locs ls v99_s0 v99_p_rnx (by omega) hT hP hD hS (lv_sub hl [0, 1] rfl)
  have j98 : ∀ (f : Nat → va_E) (H : Heap) (locs : List Loc) (ls : Array Slot) (v98_p_rnx : Int32), (TYx ad cy fr0 tx rby v98_p_rnx f) → (va_P D vwCl (wl ad f) H) → (va_D A (wl ad f)) → (va_S A s.heap H locs) → (lv_has ls 2 [(0, .ref (ad 1))]) → W p l e (rmO 1 20 0 0) s m ([.ref (ad 1)] : List Value).toArray below meth c H locs 0 0 (MQ below (va_Qv (fun (g : Nat → va_E) => True ∧ (∃ (rnx' : Int32), TYx ad cy fr0 tx rby rnx' g)) (fun g t => PstT D ad g t) A) ([.ref (ad 1)] : List Value).toArray s 0 0 A) (F0 m 98 ls []) := by
    intro f H locs ls v98_p_rnx hT hP hD hS hl
    refine lv_iconst (v := 0) hx hb dX3_takeNumber_98 (by decide) ?_
    have ttl_0 := tl_0
    exact j99 f H locs ls (0 : Int32) v98_p_rnx (by omega) hT hP hD hS (lv_sub hl [0] rfl)
  have j68 : ∀ (f : Nat → va_E) (H : Heap) (locs : List Loc) (ls : Array Slot) (v68_p_rnx : Int32), (TYx ad cy fr0 tx rby v68_p_rnx f) → (va_P D vwCl (wl ad f) H) → (va_D A (wl ad f)) → (va_S A s.heap H locs) → (lv_has ls 2 [(0, .ref (ad 1))]) → W p l e (rmO 1 20 0 0) s m ([.ref (ad 1)] : List Value).toArray below meth c H locs 0 0 (MQ below (va_Qv (fun (g : Nat → va_E) => True ∧ (∃ (rnx' : Int32), TYx ad cy fr0 tx rby rnx' g)) (fun g t => PstT D ad g t) A) ([.ref (ad 1)] : List Value).toArray s 0 0 A) (F0 m 68 ls []) := by
    intro f H locs ls v68_p_rnx hT hP hD hS hl
    refine lv_aload_n hx hb dX3_takeNumber_68 rfl (lv_at hl 0 rfl) ?_
    obtain ⟨x32, x33, t35, x37, x39, x40, x41, y42, e43, h34, h36, h38⟩ := (show okX3 ad rby v68_p_rnx 1 (f 1) from hT.1 1 (by decide))
    refine va_get (D := D) (cl := vwCl) (ci := 3) (v := .int v68_p_rnx) (C := RX3) (T := TX3) (N := 13) hx hb hts in_X3_takeNumber_X3 hown hK hP 1 (wl_at (by decide) e43) rfl 8 (by decide) (hts (.fieldLink RX3 61 "EightReasons$Reader" "next" "I") (List.mem_of_getElem? (i := 2) rfl)) (fun _ h9 => h9) rfl dX3_takeNumber_69 ?_
    refine lv_aload_n hx hb dX3_takeNumber_72 rfl (lv_at hl 0 rfl) ?_
    refine va_get (D := D) (cl := vwCl) (ci := 3) (v := .int rby) (C := RX3) (T := TX3) (N := 13) hx hb hts in_X3_takeNumber_X3 hown hK hP 1 (wl_at (by decide) e43) rfl 2 (by decide) (hts (.fieldLink RX3 49 "EightReasons$Reader" "bytes" "I") (List.mem_of_getElem? (i := 3) rfl)) (fun _ h9 => h9) rfl dX3_takeNumber_73 ?_
    refine lv_icmp_ge (tgt := 98) hx hb dX3_takeNumber_76 (by decide) (fun c44 => ?_) (fun c44 => ?_)
    · have kc44 := c_le c44
      exact j98 f H locs ls v68_p_rnx hT hP hD hS (lv_sub hl [0] rfl)
    · have kc44 := c_nle c44
      refine lv_aload_n hx hb dX3_takeNumber_79 rfl (lv_at hl 0 rfl) ?_
      refine va_get (D := D) (cl := vwCl) (ci := 3) (v := .ref (ad 2)) (C := RX3) (T := TX3) (N := 13) hx hb hts in_X3_takeNumber_X3 hown hK hP 1 (wl_at (by decide) e43) rfl 3 (by decide) (hts (.fieldLink RX3 15 "EightReasons$Reader" "tape" "[B") (List.mem_of_getElem? (i := 4) rfl)) (fun _ h9 => h9) rfl dX3_takeNumber_80 ?_
      refine lv_aload_n hx hb dX3_takeNumber_83 rfl (lv_at hl 0 rfl) ?_
      refine va_get (D := D) (cl := vwCl) (ci := 3) (v := .int v68_p_rnx) (C := RX3) (T := TX3) (N := 13) hx hb hts in_X3_takeNumber_X3 hown hK hP 1 (wl_at (by decide) e43) rfl 8 (by decide) (hts (.fieldLink RX3 61 "EightReasons$Reader" "next" "I") (List.mem_of_getElem? (i := 2) rfl)) (fun _ h9 => h9) rfl dX3_takeNumber_84 ?_
      obtain ⟨g46, e45⟩ := (show okB cy 1600 (f 2) from hT.1 2 (by decide))
      refine va_bald hx hb hK hP 2 1 (wl_at (by decide) e45) rfl (vp_in_iff.mpr ⟨by omega, by omega⟩) dX3_takeNumber_87 ?_
      refine lv_topi (fun x47 ex47 => ?_)
      refine tSI (As := [.int x47]) (rest := []) ⟨hx, hb, hml, hown, hts⟩ hK hE hP hD hS hA hAB (s_X3_isLetter_0 l B0 adK adV D cy ad f x47 _) (va_cwS 1 hts gX3_takeNumber_X3_isLetter rfl rfl rfl (by decide +kernel) ⟨Nat.le_of_ble_eq_true rfl, Nat.le_of_ble_eq_true rfl⟩) rfl hl.1 rfl (Nat.le_of_ble_eq_true rfl) dX3_takeNumber_88 ⟨Nat.le_of_ble_eq_true rfl, Nat.le_of_ble_eq_true rfl⟩ (fun r g H locs hw hP hD hS => ?_)
      obtain ⟨hrs, rfl⟩ := hw
      obtain ⟨x48, rfl⟩ : ∃ q, q = r := ⟨_, rfl⟩
      rcases hrs with rfl | rfl
      · refine lv_if_eq (tgt := 98) hx hb dX3_takeNumber_91 (by decide) (fun c => absurd c (by decide)) (fun _ => ?_)
        refine lv_iconst (v := 1) hx hb dX3_takeNumber_94 (by decide) ?_
        refine lv_goto (tgt := 99) hx hb dX3_takeNumber_95 (by decide) ?_
        have ttl_1 := tl_1
        exact j99 f H locs ls (1 : Int32) v68_p_rnx (by omega) hT hP hD hS (lv_sub hl [0] rfl)
      · refine lv_if_eq (tgt := 98) hx hb dX3_takeNumber_91 (by decide) (fun _ => ?_) (fun c => absurd (by decide) c)
        exact j98 f H locs ls v68_p_rnx hT hP hD hS (lv_sub hl [0] rfl)
  have j5 : ∀ (N : Nat) (f : Nat → va_E) (H : Heap) (locs : List Loc) (ls : Array Slot) (v5_p_rnx : Int32), (1601 - v5_p_rnx.toInt ≤ (N : Int)) → (0 ≤ v5_p_rnx.toInt ∧ v5_p_rnx.toInt ≤ 1600) → (TYx ad cy fr0 tx rby v5_p_rnx f) → (va_P D vwCl (wl ad f) H) → (va_D A (wl ad f)) → (va_S A s.heap H locs) → (lv_has ls 2 [(0, .ref (ad 1))]) → W p l e (rmO 1 20 0 0) s m ([.ref (ad 1)] : List Value).toArray below meth c H locs 0 0 (MQ below (va_Qv (fun (g : Nat → va_E) => True ∧ (∃ (rnx' : Int32), TYx ad cy fr0 tx rby rnx' g)) (fun g t => PstT D ad g t) A) ([.ref (ad 1)] : List Value).toArray s 0 0 A) (F0 m 5 ls []) := by
    intro N
    induction N with
    | zero => intro f H locs ls v5_p_rnx hN hJ5_0 hT hP hD hS hl; exact absurd hN (by omega)
    | succ N ih5 =>
      intro f H locs ls v5_p_rnx hN hJ5_0 hT hP hD hS hl
      refine lv_aload_n hx hb dX3_takeNumber_5 rfl (lv_at hl 0 rfl) ?_
      obtain ⟨x49, x50, t52, x54, x56, x57, x58, y59, e60, h51, h53, h55⟩ := (show okX3 ad rby v5_p_rnx 1 (f 1) from hT.1 1 (by decide))
      refine va_get (D := D) (cl := vwCl) (ci := 3) (v := .int v5_p_rnx) (C := RX3) (T := TX3) (N := 13) hx hb hts in_X3_takeNumber_X3 hown hK hP 1 (wl_at (by decide) e60) rfl 8 (by decide) (hts (.fieldLink RX3 61 "EightReasons$Reader" "next" "I") (List.mem_of_getElem? (i := 2) rfl)) (fun _ h9 => h9) rfl dX3_takeNumber_6 ?_
      refine lv_aload_n hx hb dX3_takeNumber_9 rfl (lv_at hl 0 rfl) ?_
      refine va_get (D := D) (cl := vwCl) (ci := 3) (v := .int rby) (C := RX3) (T := TX3) (N := 13) hx hb hts in_X3_takeNumber_X3 hown hK hP 1 (wl_at (by decide) e60) rfl 2 (by decide) (hts (.fieldLink RX3 49 "EightReasons$Reader" "bytes" "I") (List.mem_of_getElem? (i := 3) rfl)) (fun _ h9 => h9) rfl dX3_takeNumber_10 ?_
      refine lv_icmp_ge (tgt := 68) hx hb dX3_takeNumber_13 (by decide) (fun c61 => ?_) (fun c61 => ?_)
      · have kc61 := c_le c61
        exact j68 f H locs ls v5_p_rnx hT hP hD hS (lv_sub hl [0] rfl)
      · have kc61 := c_nle c61
        refine lv_aload_n hx hb dX3_takeNumber_16 rfl (lv_at hl 0 rfl) ?_
        refine va_get (D := D) (cl := vwCl) (ci := 3) (v := .ref (ad 2)) (C := RX3) (T := TX3) (N := 13) hx hb hts in_X3_takeNumber_X3 hown hK hP 1 (wl_at (by decide) e60) rfl 3 (by decide) (hts (.fieldLink RX3 15 "EightReasons$Reader" "tape" "[B") (List.mem_of_getElem? (i := 4) rfl)) (fun _ h9 => h9) rfl dX3_takeNumber_17 ?_
        refine lv_aload_n hx hb dX3_takeNumber_20 rfl (lv_at hl 0 rfl) ?_
        refine va_get (D := D) (cl := vwCl) (ci := 3) (v := .int v5_p_rnx) (C := RX3) (T := TX3) (N := 13) hx hb hts in_X3_takeNumber_X3 hown hK hP 1 (wl_at (by decide) e60) rfl 8 (by decide) (hts (.fieldLink RX3 61 "EightReasons$Reader" "next" "I") (List.mem_of_getElem? (i := 2) rfl)) (fun _ h9 => h9) rfl dX3_takeNumber_21 ?_
        obtain ⟨g63, e62⟩ := (show okB cy 1600 (f 2) from hT.1 2 (by decide))
        refine va_bald hx hb hK hP 2 1 (wl_at (by decide) e62) rfl (vp_in_iff.mpr ⟨by omega, by omega⟩) dX3_takeNumber_24 ?_
        refine lv_topi (fun x64 ex64 => ?_)
        refine tSI (As := [.int x64]) (rest := []) ⟨hx, hb, hml, hown, hts⟩ hK hE hP hD hS hA hAB (s_X3_isDigit_0 l B0 adK adV D cy ad f x64 _) (va_cwS 1 hts gX3_takeNumber_X3_isDigit rfl rfl rfl (by decide +kernel) ⟨Nat.le_of_ble_eq_true rfl, Nat.le_of_ble_eq_true rfl⟩) rfl hl.1 rfl (Nat.le_of_ble_eq_true rfl) dX3_takeNumber_25 ⟨Nat.le_of_ble_eq_true rfl, Nat.le_of_ble_eq_true rfl⟩ (fun r g H locs hw hP hD hS => ?_)
        obtain ⟨hrs, rfl⟩ := hw
        obtain ⟨x65, rfl⟩ : ∃ q, q = r := ⟨_, rfl⟩
        rcases hrs with rfl | rfl
        · refine lv_if_eq (tgt := 68) hx hb dX3_takeNumber_28 (by decide) (fun c => absurd c (by decide)) (fun _ => ?_)
          refine lv_aload_n hx hb dX3_takeNumber_31 rfl (lv_at hl 0 rfl) ?_
          refine lv_aload_n hx hb dX3_takeNumber_32 rfl (lv_at hl 0 rfl) ?_
          refine va_get (D := D) (cl := vwCl) (ci := 3) (v := .int x58) (C := RX3) (T := TX3) (N := 13) hx hb hts in_X3_takeNumber_X3 hown hK hP 1 (wl_at (by decide) e60) rfl 11 (by decide) (hts (.fieldLink RX3 102 "EightReasons$Reader" "number" "I") (List.mem_of_getElem? (i := 1) rfl)) (fun _ h9 => h9) rfl dX3_takeNumber_33 ?_
          refine lv_bipush (v := 10) hx hb dX3_takeNumber_36 (by decide) ?_
          refine lv_imul hx hb dX3_takeNumber_38 ?_
          refine lv_topi (fun x66 ex66 => ?_)
          refine lv_aload_n hx hb dX3_takeNumber_39 rfl (lv_at hl 0 rfl) ?_
          refine va_get (D := D) (cl := vwCl) (ci := 3) (v := .ref (ad 2)) (C := RX3) (T := TX3) (N := 13) hx hb hts in_X3_takeNumber_X3 hown hK hP 1 (wl_at (by decide) e60) rfl 3 (by decide) (hts (.fieldLink RX3 15 "EightReasons$Reader" "tape" "[B") (List.mem_of_getElem? (i := 4) rfl)) (fun _ h9 => h9) rfl dX3_takeNumber_40 ?_
          refine lv_aload_n hx hb dX3_takeNumber_43 rfl (lv_at hl 0 rfl) ?_
          refine va_get (D := D) (cl := vwCl) (ci := 3) (v := .int v5_p_rnx) (C := RX3) (T := TX3) (N := 13) hx hb hts in_X3_takeNumber_X3 hown hK hP 1 (wl_at (by decide) e60) rfl 8 (by decide) (hts (.fieldLink RX3 61 "EightReasons$Reader" "next" "I") (List.mem_of_getElem? (i := 2) rfl)) (fun _ h9 => h9) rfl dX3_takeNumber_44 ?_
          refine va_bald hx hb hK hP 2 1 (wl_at (by decide) e62) rfl (vp_in_iff.mpr ⟨by omega, by omega⟩) dX3_takeNumber_47 ?_
          refine lv_topi (fun x67 ex67 => ?_)
          refine lv_iadd hx hb dX3_takeNumber_48 ?_
          refine lv_topi (fun x68 ex68 => ?_)
          refine lv_bipush (v := 48) hx hb dX3_takeNumber_49 (by decide) ?_
          refine lv_isub hx hb dX3_takeNumber_51 ?_
          refine lv_topi (fun x69 ex69 => ?_)
          refine va_put (D := D) (cl := vwCl) (ci := 3) (v := .int x69) (ty := tyX3 11) (C := RX3) (T := TX3) (N := 13) hx hb hts in_X3_takeNumber_X3 tyX3 tyX3_ok nmX3 hown hK hP hD hS 1 (wl_at (by decide) e60) rfl 11 (by decide) (hts (.fieldLink RX3 102 "EightReasons$Reader" "number" "I") (List.mem_of_getElem? (i := 1) rfl)) (fun _ h9 => h9) rfl (tyX3_ok 11 (by decide)) rfl rfl (Nat.le_of_ble_eq_true rfl) dX3_takeNumber_52 (fun H locs hP hD hS => ?_)
          obtain ⟨f, hT, hP, hD, e70, hj71⟩ := stU (by decide) (TYx.up hT (by decide) (show OKx ad cy tx rby v5_p_rnx 1 _ from (show okX3 ad rby v5_p_rnx 1 _ from ⟨x49, x50, t52, x54, x56, x57, x69, y59, rfl, by omega, h53, by omega⟩))) hP hD
          have e72 := (hj71 2 (by decide)).trans e62
          refine lv_aload_n hx hb dX3_takeNumber_55 rfl (lv_at hl 0 rfl) ?_
          refine lv_dup hx hb dX3_takeNumber_56 rfl ?_
          refine va_get (D := D) (cl := vwCl) (ci := 3) (v := .int v5_p_rnx) (C := RX3) (T := TX3) (N := 13) hx hb hts in_X3_takeNumber_X3 hown hK hP 1 (wl_at (by decide) e70) rfl 8 (by decide) (hts (.fieldLink RX3 61 "EightReasons$Reader" "next" "I") (List.mem_of_getElem? (i := 2) rfl)) (fun _ h9 => h9) rfl dX3_takeNumber_57 ?_
          refine lv_iconst (v := 1) hx hb dX3_takeNumber_60 (by decide) ?_
          have ttl_1 := tl_1
          refine lv_iadd hx hb dX3_takeNumber_61 ?_
          refine lv_topi (fun x73 ex73 => ?_)
          have hx73 := r_add ex73 (by omega) (by omega)
          refine va_put (D := D) (cl := vwCl) (ci := 3) (v := .int x73) (ty := tyX3 8) (C := RX3) (T := TX3) (N := 13) hx hb hts in_X3_takeNumber_X3 tyX3 tyX3_ok nmX3 hown hK hP hD hS 1 (wl_at (by decide) e70) rfl 8 (by decide) (hts (.fieldLink RX3 61 "EightReasons$Reader" "next" "I") (List.mem_of_getElem? (i := 2) rfl)) (fun _ h9 => h9) rfl (tyX3_ok 8 (by decide)) rfl rfl (Nat.le_of_ble_eq_true rfl) dX3_takeNumber_62 (fun H locs hP hD hS => ?_)
          obtain ⟨f, hT, hP, hD, e74, hj75⟩ := stU (by decide) (TYx.p1 hT (show OKx ad cy tx rby x73 1 _ from (show okX3 ad rby x73 1 _ from ⟨x49, x50, t52, x54, x56, x57, x69, y59, rfl, by omega, h53, by omega⟩))) hP hD
          have e76 := (hj75 2 (by decide)).trans e72
          refine lv_goto (tgt := 5) hx hb dX3_takeNumber_65 (by decide) ?_
          exact ih5 f H locs ls x73 (by omega) (by omega) hT hP hD hS (lv_sub hl [0] rfl)
        · refine lv_if_eq (tgt := 68) hx hb dX3_takeNumber_28 (by decide) (fun _ => ?_) (fun c => absurd (by decide) c)
          exact j68 f H locs ls v5_p_rnx hT hP hD hS (lv_sub hl [0] rfl)
  refine lv_aload_n hx hb dX3_takeNumber_0 rfl (lv_at hl 0 rfl) ?_
  refine lv_iconst (v := 0) hx hb dX3_takeNumber_1 (by decide) ?_
  obtain ⟨x77, x78, t80, x82, x84, x85, x86, y87, e88, h79, h81, h83⟩ := (show okX3 ad rby rnx 1 (f 1) from hT.1 1 (by decide))
  refine va_put (D := D) (cl := vwCl) (ci := 3) (v := .int 0) (ty := tyX3 11) (C := RX3) (T := TX3) (N := 13) hx hb hts in_X3_takeNumber_X3 tyX3 tyX3_ok nmX3 hown hK hP hD hS 1 (wl_at (by decide) e88) rfl 11 (by decide) (hts (.fieldLink RX3 102 "EightReasons$Reader" "number" "I") (List.mem_of_getElem? (i := 1) rfl)) (fun _ h9 => h9) rfl (tyX3_ok 11 (by decide)) rfl rfl (Nat.le_of_ble_eq_true rfl) dX3_takeNumber_2 (fun H locs hP hD hS => ?_)
  obtain ⟨f, hT, hP, hD, e89, hj90⟩ := stU (by decide) (TYx.up hT (by decide) (show OKx ad cy tx rby rnx 1 _ from (show okX3 ad rby rnx 1 _ from ⟨x77, x78, t80, x82, x84, x85, (0 : Int32), y87, rfl, by omega, h81, by omega⟩))) hP hD
  exact j5 (Int.toNat (1601 - rnx.toInt)) f H locs ls rnx (by omega) (by omega) hT hP hD hS (lv_sub hl [0] rfl)
set_option maxHeartbeats 4000000 in
set_option maxRecDepth 100000 in
theorem s_X3_takeWord_0 (l : Launch) (B0 : Nat) (adK adV : Nat → Nat) (D : va_G) (cy : Nat → ClassId) (ad : Nat → Nat) (fr0 : Nat → va_E) (tx : Int32) (rby : Int32) (rnx : Int32) (f : Nat → va_E) (hT : TYx ad cy fr0 tx rby rnx f) (sz : Nat) : TtV l yX3_takeWord wsX3_takeWord 1 20 [.ref (ad 1)] B0 adK adV D cy ad f sz (fun (g : Nat → va_E) => True ∧ (∃ (rnx' : Int32), TYx ad cy fr0 tx rby rnx' g)) := by
  refine TtV.of (cc := cX3_takeWord) (maxL := 2) (own := RX3) (by decide) rfl (Nat.le_of_ble_eq_true rfl) rfl ?_
  intro p e s m below meth c A ls hx hb hr hml hts hown hlk hK hE hP hD hS hA hAB hl
  have hl : lv_has ls 2 [(0, .ref (ad 1))] := hl
  refine st0 (fun H locs hP hS => ?_) hP hS
  have j100 : ∀ (N : Nat) (f : Nat → va_E) (H : Heap) (locs : List Loc) (ls : Array Slot) (v100_l1 : Int32) (v100_p_rnx : Int32), (15 - v100_l1.toInt ≤ (N : Int)) → (0 ≤ v100_l1.toInt ∧ v100_l1.toInt ≤ 14) → (TYx ad cy fr0 tx rby v100_p_rnx f) → (va_P D vwCl (wl ad f) H) → (va_D A (wl ad f)) → (va_S A s.heap H locs) → (lv_has ls 2 [(1, .int v100_l1), (0, .ref (ad 1))]) → W p l e (rmO 1 20 0 0) s m ([.ref (ad 1)] : List Value).toArray below meth c H locs 0 0 (MQ below (va_Qv (fun (g : Nat → va_E) => True ∧ (∃ (rnx' : Int32), TYx ad cy fr0 tx rby rnx' g)) (fun g t => PstT D ad g t) A) ([.ref (ad 1)] : List Value).toArray s 0 0 A) (F0 m 100 ls []) := by
    intro N
    induction N with
    | zero => intro f H locs ls v100_l1 v100_p_rnx hN hv100_l1 hT hP hD hS hl; exact absurd hN (by omega)
    | succ N ih100 =>
      intro f H locs ls v100_l1 v100_p_rnx hN hv100_l1 hT hP hD hS hl
      have j134 : ∀ (f : Nat → va_E) (H : Heap) (locs : List Loc) (ls : Array Slot), (0 ≤ v100_l1.toInt ∧ v100_l1.toInt ≤ 13) → (TYx ad cy fr0 tx rby v100_p_rnx f) → (va_P D vwCl (wl ad f) H) → (va_D A (wl ad f)) → (va_S A s.heap H locs) → (lv_has ls 2 [(1, .int v100_l1), (0, .ref (ad 1))]) → W p l e (rmO 1 20 0 0) s m ([.ref (ad 1)] : List Value).toArray below meth c H locs 0 0 (MQ below (va_Qv (fun (g : Nat → va_E) => True ∧ (∃ (rnx' : Int32), TYx ad cy fr0 tx rby rnx' g)) (fun g t => PstT D ad g t) A) ([.ref (ad 1)] : List Value).toArray s 0 0 A) (F0 m 134 ls []) := by
        intro f H locs ls hv134_l1 hT hP hD hS hl
        obtain ⟨x1, ex1⟩ : ∃ q : Int32, q = v100_l1 + Int32.ofInt (1) := ⟨_, rfl⟩
        refine lv_iinc (v := x1) (lv' := [(1, .int x1), (0, .ref (ad 1))]) hx hb dX3_takeWord_134 hl (k := 0) rfl ex1.symm (by decide) rfl (fun ls hl => ?_)
        have hx1 := r_inc ex1 (by decide) (by omega) (by omega)
        refine lv_goto (tgt := 100) hx hb dX3_takeWord_137 (by decide) ?_
        exact ih100 f H locs ls x1 v100_p_rnx (by omega) (by omega) hT hP hD hS (lv_sub hl [0, 1] rfl)
      refine lv_iload_n hx hb dX3_takeWord_100 rfl (lv_at hl 0 rfl) ?_
      refine lv_bipush (v := 14) hx hb dX3_takeWord_101 (by decide) ?_
      have ttl_14 := tl_14
      refine lv_icmp_ge (tgt := 140) hx hb dX3_takeWord_103 (by decide) (fun c2 => ?_) (fun c2 => ?_)
      · have kc2 := c_le c2
        exact tV hx hb hr hlk hP hS ⟨trivial, ⟨v100_p_rnx, hT⟩⟩ dX3_takeWord_140
      · have kc2 := c_nle c2
        refine lv_aload_n hx hb dX3_takeWord_106 rfl (lv_at hl 1 rfl) ?_
        obtain ⟨x3, x4, t6, x8, x10, x11, x12, y13, e14, h5, h7, h9⟩ := (show okX3 ad rby v100_p_rnx 1 (f 1) from hT.1 1 (by decide))
        refine va_get (D := D) (cl := vwCl) (ci := 3) (v := .int x11) (C := RX3) (T := TX3) (N := 13) hx hb hts in_X3_takeWord_X3 hown hK hP 1 (wl_at (by decide) e14) rfl 10 (by decide) (hts (.fieldLink RX3 67 "EightReasons$Reader" "kind" "I") (List.mem_of_getElem? (i := 8) rfl)) (fun _ h9 => h9) rfl dX3_takeWord_107 ?_
        refine lv_bipush (v := 14) hx hb dX3_takeWord_110 (by decide) ?_
        refine lv_icmp_ne (tgt := 140) hx hb dX3_takeWord_112 (by decide) (fun c15 => ?_) (fun c15 => ?_)
        · have kc15 := c_ne c15
          exact tV hx hb hr hlk hP hS ⟨trivial, ⟨v100_p_rnx, hT⟩⟩ dX3_takeWord_140
        · have kc15 := c_eq c15
          refine lv_aload_n hx hb dX3_takeWord_115 rfl (lv_at hl 1 rfl) ?_
          refine va_get (D := D) (cl := vwCl) (ci := 3) (v := .ref (ad 4)) (C := RX3) (T := TX3) (N := 13) hx hb hts in_X3_takeWord_X3 hown hK hP 1 (wl_at (by decide) e14) rfl 6 (by decide) (hts (.fieldLink RX3 30 "EightReasons$Reader" "words" "[J") (List.mem_of_getElem? (i := 9) rfl)) (fun _ h9 => h9) rfl dX3_takeWord_116 ?_
          refine lv_iload_n hx hb dX3_takeWord_119 rfl (lv_at hl 0 rfl) ?_
          obtain ⟨g17, e16⟩ := (show okJ cy 14 (f 4) from hT.1 4 (by decide))
          refine va_lald hx hb hK hP 4 2 (wl_at (by decide) e16) rfl (vp_in_iff.mpr ⟨by omega, by omega⟩) dX3_takeWord_120 ?_
          refine lv_topl (fun y18 _ => ?_)
          refine lv_aload_n hx hb dX3_takeWord_121 rfl (lv_at hl 1 rfl) ?_
          refine va_get (D := D) (cl := vwCl) (ci := 3) (v := .long y13) (C := RX3) (T := TX3) (N := 13) hx hb hts in_X3_takeWord_X3 hown hK hP 1 (wl_at (by decide) e14) rfl 12 (by decide) (hts (.fieldLink RX3 98 "EightReasons$Reader" "name" "J") (List.mem_of_getElem? (i := 1) rfl)) (fun _ h9 => h9) rfl dX3_takeWord_122 ?_
          refine lvcmp hx hb dX3_takeWord_125 (fun x19 hx19 => ?_)
          have ttl_0 := tl_0
          refine lv_if_ne (tgt := 134) hx hb dX3_takeWord_126 (by decide) (fun c20 => ?_) (fun c20 => ?_)
          · have kc20 := c_ne c20
            exact j134 f H locs ls (by omega) hT hP hD hS (lv_sub hl [0, 1] rfl)
          · have kc20 := c_eq c20
            refine lv_aload_n hx hb dX3_takeWord_129 rfl (lv_at hl 1 rfl) ?_
            refine lv_iload_n hx hb dX3_takeWord_130 rfl (lv_at hl 0 rfl) ?_
            refine va_put (D := D) (cl := vwCl) (ci := 3) (v := .int v100_l1) (ty := tyX3 10) (C := RX3) (T := TX3) (N := 13) hx hb hts in_X3_takeWord_X3 tyX3 tyX3_ok nmX3 hown hK hP hD hS 1 (wl_at (by decide) e14) rfl 10 (by decide) (hts (.fieldLink RX3 67 "EightReasons$Reader" "kind" "I") (List.mem_of_getElem? (i := 8) rfl)) (fun _ h9 => h9) rfl (tyX3_ok 10 (by decide)) rfl rfl (Nat.le_of_ble_eq_true rfl) dX3_takeWord_131 (fun H locs hP hD hS => ?_)
            obtain ⟨f, hT, hP, hD, e21, hj22⟩ := stU (by decide) (TYx.up hT (by decide) (show OKx ad cy tx rby v100_p_rnx 1 _ from (show okX3 ad rby v100_p_rnx 1 _ from ⟨x3, x4, t6, x8, x10, v100_l1, x12, y13, rfl, by omega, h7, by omega⟩))) hP hD
            have e23 := (hj22 4 (by decide)).trans e16
            exact j134 f H locs ls (by omega) hT hP hD hS (lv_sub hl [0, 1] rfl)
  have j95 : ∀ (f : Nat → va_E) (H : Heap) (locs : List Loc) (ls : Array Slot) (v95_s1 : Int32) (v95_p_rnx : Int32), (14 ≤ v95_s1.toInt ∧ v95_s1.toInt ≤ 17) → (TYx ad cy fr0 tx rby v95_p_rnx f) → (va_P D vwCl (wl ad f) H) → (va_D A (wl ad f)) → (va_S A s.heap H locs) → (lv_has ls 2 [(0, .ref (ad 1))]) → W p l e (rmO 1 20 0 0) s m ([.ref (ad 1)] : List Value).toArray below meth c H locs 0 0 (MQ below (va_Qv (fun (g : Nat → va_E) => True ∧ (∃ (rnx' : Int32), TYx ad cy fr0 tx rby rnx' g)) (fun g t => PstT D ad g t) A) ([.ref (ad 1)] : List Value).toArray s 0 0 A) (F0 m 95 ls [.int v95_s1, .ref (ad 1)]) := by
    intro f H locs ls v95_s1 v95_p_rnx hv95_s1 hT hP hD hS hl
    obtain ⟨x24, x25, t27, x29, x31, x32, x33, y34, e35, h26, h28, h30⟩ := (show okX3 ad rby v95_p_rnx 1 (f 1) from hT.1 1 (by decide))
    refine va_put (D := D) (cl := vwCl) (ci := 3) (v := .int v95_s1) (ty := tyX3 10) (C := RX3) (T := TX3) (N := 13) hx hb hts in_X3_takeWord_X3 tyX3 tyX3_ok nmX3 hown hK hP hD hS 1 (wl_at (by decide) e35) rfl 10 (by decide) (hts (.fieldLink RX3 67 "EightReasons$Reader" "kind" "I") (List.mem_of_getElem? (i := 8) rfl)) (fun _ h9 => h9) rfl (tyX3_ok 10 (by decide)) rfl rfl (Nat.le_of_ble_eq_true rfl) dX3_takeWord_95 (fun H locs hP hD hS => ?_)
    obtain ⟨f, hT, hP, hD, e36, hj37⟩ := stU (by decide) (TYx.up hT (by decide) (show OKx ad cy tx rby v95_p_rnx 1 _ from (show okX3 ad rby v95_p_rnx 1 _ from ⟨x24, x25, t27, x29, x31, v95_s1, x33, y34, rfl, by omega, h28, by omega⟩))) hP hD
    refine lv_iconst (v := 0) hx hb dX3_takeWord_98 (by decide) ?_
    refine lv_istore_n (lv' := [(1, .int 0), (0, .ref (ad 1))]) hx hb dX3_takeWord_99 rfl hl (by decide) rfl (fun ls hl => ?_)
    have ttl_0 := tl_0
    exact j100 (Int.toNat (15 - (0 : Int32).toInt)) f H locs ls (0 : Int32) v95_p_rnx (by omega) (by omega) hT hP hD hS (lv_sub hl [0, 1] rfl)
  have j73 : ∀ (f : Nat → va_E) (H : Heap) (locs : List Loc) (ls : Array Slot) (v73_p_rnx : Int32), (TYx ad cy fr0 tx rby v73_p_rnx f) → (va_P D vwCl (wl ad f) H) → (va_D A (wl ad f)) → (va_S A s.heap H locs) → (lv_has ls 2 [(0, .ref (ad 1))]) → W p l e (rmO 1 20 0 0) s m ([.ref (ad 1)] : List Value).toArray below meth c H locs 0 0 (MQ below (va_Qv (fun (g : Nat → va_E) => True ∧ (∃ (rnx' : Int32), TYx ad cy fr0 tx rby rnx' g)) (fun g t => PstT D ad g t) A) ([.ref (ad 1)] : List Value).toArray s 0 0 A) (F0 m 73 ls []) := by
    intro f H locs ls v73_p_rnx hT hP hD hS hl
    refine lv_aload_n hx hb dX3_takeWord_73 rfl (lv_at hl 0 rfl) ?_
    refine lv_aload_n hx hb dX3_takeWord_74 rfl (lv_at hl 0 rfl) ?_
    obtain ⟨x38, x39, t41, x43, x45, x46, x47, y48, e49, h40, h42, h44⟩ := (show okX3 ad rby v73_p_rnx 1 (f 1) from hT.1 1 (by decide))
    refine va_get (D := D) (cl := vwCl) (ci := 3) (v := .int v73_p_rnx) (C := RX3) (T := TX3) (N := 13) hx hb hts in_X3_takeWord_X3 hown hK hP 1 (wl_at (by decide) e49) rfl 8 (by decide) (hts (.fieldLink RX3 61 "EightReasons$Reader" "next" "I") (List.mem_of_getElem? (i := 2) rfl)) (fun _ h9 => h9) rfl dX3_takeWord_75 ?_
    refine lv_aload_n hx hb dX3_takeWord_78 rfl (lv_at hl 0 rfl) ?_
    refine va_get (D := D) (cl := vwCl) (ci := 3) (v := .int x45) (C := RX3) (T := TX3) (N := 13) hx hb hts in_X3_takeWord_X3 hown hK hP 1 (wl_at (by decide) e49) rfl 9 (by decide) (hts (.fieldLink RX3 77 "EightReasons$Reader" "at" "I") (List.mem_of_getElem? (i := 7) rfl)) (fun _ h9 => h9) rfl dX3_takeWord_79 ?_
    refine lv_isub hx hb dX3_takeWord_82 ?_
    refine lv_topi (fun x50 ex50 => ?_)
    refine lv_bipush (v := 8) hx hb dX3_takeWord_83 (by decide) ?_
    have ttl_8 := tl_8
    refine lv_icmp_le (tgt := 93) hx hb dX3_takeWord_85 (by decide) (fun c51 => ?_) (fun c51 => ?_)
    · have kc51 := c_le c51
      refine lv_bipush (v := 14) hx hb dX3_takeWord_93 (by decide) ?_
      have ttl_14 := tl_14
      exact j95 f H locs ls (14 : Int32) v73_p_rnx (by omega) hT hP hD hS (lv_sub hl [0] rfl)
    · have kc51 := c_nle c51
      refine lv_bipush (v := 17) hx hb dX3_takeWord_88 (by decide) ?_
      refine lv_goto (tgt := 95) hx hb dX3_takeWord_90 (by decide) ?_
      have ttl_17 := tl_17
      exact j95 f H locs ls (17 : Int32) v73_p_rnx (by omega) hT hP hD hS (lv_sub hl [0] rfl)
  have j5 : ∀ (N : Nat) (f : Nat → va_E) (H : Heap) (locs : List Loc) (ls : Array Slot) (v5_p_rnx : Int32), (1601 - v5_p_rnx.toInt ≤ (N : Int)) → (0 ≤ v5_p_rnx.toInt ∧ v5_p_rnx.toInt ≤ 1600) → (TYx ad cy fr0 tx rby v5_p_rnx f) → (va_P D vwCl (wl ad f) H) → (va_D A (wl ad f)) → (va_S A s.heap H locs) → (lv_has ls 2 [(0, .ref (ad 1))]) → W p l e (rmO 1 20 0 0) s m ([.ref (ad 1)] : List Value).toArray below meth c H locs 0 0 (MQ below (va_Qv (fun (g : Nat → va_E) => True ∧ (∃ (rnx' : Int32), TYx ad cy fr0 tx rby rnx' g)) (fun g t => PstT D ad g t) A) ([.ref (ad 1)] : List Value).toArray s 0 0 A) (F0 m 5 ls []) := by
    intro N
    induction N with
    | zero => intro f H locs ls v5_p_rnx hN hJ5_0 hT hP hD hS hl; exact absurd hN (by omega)
    | succ N ih5 =>
      intro f H locs ls v5_p_rnx hN hJ5_0 hT hP hD hS hl
      refine lv_aload_n hx hb dX3_takeWord_5 rfl (lv_at hl 0 rfl) ?_
      obtain ⟨x52, x53, t55, x57, x59, x60, x61, y62, e63, h54, h56, h58⟩ := (show okX3 ad rby v5_p_rnx 1 (f 1) from hT.1 1 (by decide))
      refine va_get (D := D) (cl := vwCl) (ci := 3) (v := .int v5_p_rnx) (C := RX3) (T := TX3) (N := 13) hx hb hts in_X3_takeWord_X3 hown hK hP 1 (wl_at (by decide) e63) rfl 8 (by decide) (hts (.fieldLink RX3 61 "EightReasons$Reader" "next" "I") (List.mem_of_getElem? (i := 2) rfl)) (fun _ h9 => h9) rfl dX3_takeWord_6 ?_
      refine lv_aload_n hx hb dX3_takeWord_9 rfl (lv_at hl 0 rfl) ?_
      refine va_get (D := D) (cl := vwCl) (ci := 3) (v := .int rby) (C := RX3) (T := TX3) (N := 13) hx hb hts in_X3_takeWord_X3 hown hK hP 1 (wl_at (by decide) e63) rfl 2 (by decide) (hts (.fieldLink RX3 49 "EightReasons$Reader" "bytes" "I") (List.mem_of_getElem? (i := 3) rfl)) (fun _ h9 => h9) rfl dX3_takeWord_10 ?_
      refine lv_icmp_ge (tgt := 73) hx hb dX3_takeWord_13 (by decide) (fun c64 => ?_) (fun c64 => ?_)
      · have kc64 := c_le c64
        exact j73 f H locs ls v5_p_rnx hT hP hD hS (lv_sub hl [0] rfl)
      · have kc64 := c_nle c64
        refine lv_aload_n hx hb dX3_takeWord_16 rfl (lv_at hl 0 rfl) ?_
        refine va_get (D := D) (cl := vwCl) (ci := 3) (v := .ref (ad 2)) (C := RX3) (T := TX3) (N := 13) hx hb hts in_X3_takeWord_X3 hown hK hP 1 (wl_at (by decide) e63) rfl 3 (by decide) (hts (.fieldLink RX3 15 "EightReasons$Reader" "tape" "[B") (List.mem_of_getElem? (i := 4) rfl)) (fun _ h9 => h9) rfl dX3_takeWord_17 ?_
        refine lv_aload_n hx hb dX3_takeWord_20 rfl (lv_at hl 0 rfl) ?_
        refine va_get (D := D) (cl := vwCl) (ci := 3) (v := .int v5_p_rnx) (C := RX3) (T := TX3) (N := 13) hx hb hts in_X3_takeWord_X3 hown hK hP 1 (wl_at (by decide) e63) rfl 8 (by decide) (hts (.fieldLink RX3 61 "EightReasons$Reader" "next" "I") (List.mem_of_getElem? (i := 2) rfl)) (fun _ h9 => h9) rfl dX3_takeWord_21 ?_
        obtain ⟨g66, e65⟩ := (show okB cy 1600 (f 2) from hT.1 2 (by decide))
        refine va_bald hx hb hK hP 2 1 (wl_at (by decide) e65) rfl (vp_in_iff.mpr ⟨by omega, by omega⟩) dX3_takeWord_24 ?_
        refine lv_topi (fun x67 ex67 => ?_)
        refine tSI (As := [.int x67]) (rest := []) ⟨hx, hb, hml, hown, hts⟩ hK hE hP hD hS hA hAB (s_X3_isLetter_0 l B0 adK adV D cy ad f x67 _) (va_cwS 1 hts gX3_takeWord_X3_isLetter rfl rfl rfl (by decide +kernel) ⟨Nat.le_of_ble_eq_true rfl, Nat.le_of_ble_eq_true rfl⟩) rfl hl.1 rfl (Nat.le_of_ble_eq_true rfl) dX3_takeWord_25 ⟨Nat.le_of_ble_eq_true rfl, Nat.le_of_ble_eq_true rfl⟩ (fun r g H locs hw hP hD hS => ?_)
        obtain ⟨hrs, rfl⟩ := hw
        obtain ⟨x68, rfl⟩ : ∃ q, q = r := ⟨_, rfl⟩
        rcases hrs with rfl | rfl
        · refine lv_if_eq (tgt := 73) hx hb dX3_takeWord_28 (by decide) (fun c => absurd c (by decide)) (fun _ => ?_)
          refine lv_aload_n hx hb dX3_takeWord_31 rfl (lv_at hl 0 rfl) ?_
          refine lv_aload_n hx hb dX3_takeWord_32 rfl (lv_at hl 0 rfl) ?_
          refine va_get (D := D) (cl := vwCl) (ci := 3) (v := .long y62) (C := RX3) (T := TX3) (N := 13) hx hb hts in_X3_takeWord_X3 hown hK hP 1 (wl_at (by decide) e63) rfl 12 (by decide) (hts (.fieldLink RX3 98 "EightReasons$Reader" "name" "J") (List.mem_of_getElem? (i := 1) rfl)) (fun _ h9 => h9) rfl dX3_takeWord_33 ?_
          have ttlj_32 := tlj_32
          refine lv_ldc2 (v := 32) hx hb hown (hts (.constantLong RX3 45 (32)) (List.mem_of_getElem? (i := 5) rfl)) dX3_takeWord_36 ?_
          refine lv_lmul hx hb dX3_takeWord_39 ?_
          refine lv_topl (fun y69 _ => ?_)
          refine lv_aload_n hx hb dX3_takeWord_40 rfl (lv_at hl 0 rfl) ?_
          refine va_get (D := D) (cl := vwCl) (ci := 3) (v := .ref (ad 2)) (C := RX3) (T := TX3) (N := 13) hx hb hts in_X3_takeWord_X3 hown hK hP 1 (wl_at (by decide) e63) rfl 3 (by decide) (hts (.fieldLink RX3 15 "EightReasons$Reader" "tape" "[B") (List.mem_of_getElem? (i := 4) rfl)) (fun _ h9 => h9) rfl dX3_takeWord_41 ?_
          refine lv_aload_n hx hb dX3_takeWord_44 rfl (lv_at hl 0 rfl) ?_
          refine va_get (D := D) (cl := vwCl) (ci := 3) (v := .int v5_p_rnx) (C := RX3) (T := TX3) (N := 13) hx hb hts in_X3_takeWord_X3 hown hK hP 1 (wl_at (by decide) e63) rfl 8 (by decide) (hts (.fieldLink RX3 61 "EightReasons$Reader" "next" "I") (List.mem_of_getElem? (i := 2) rfl)) (fun _ h9 => h9) rfl dX3_takeWord_45 ?_
          refine va_bald hx hb hK hP 2 1 (wl_at (by decide) e65) rfl (vp_in_iff.mpr ⟨by omega, by omega⟩) dX3_takeWord_48 ?_
          refine lv_topi (fun x70 ex70 => ?_)
          refine lv_i2l hx hb dX3_takeWord_49 rfl ?_
          refine lv_topl (fun y71 _ => ?_)
          refine lv_ladd hx hb dX3_takeWord_50 ?_
          refine lv_topl (fun y72 _ => ?_)
          have ttlj_97 := tlj_97
          refine lv_ldc2 (v := 97) hx hb hown (hts (.constantLong RX3 47 (97)) (List.mem_of_getElem? (i := 6) rfl)) dX3_takeWord_51 ?_
          refine lv_lsub hx hb dX3_takeWord_54 ?_
          refine lv_topl (fun y73 _ => ?_)
          have ttlj_1 := tlj_1
          refine lv_lconst (v := 1) hx hb dX3_takeWord_55 (by decide) ?_
          refine lv_ladd hx hb dX3_takeWord_56 ?_
          refine lv_topl (fun y74 _ => ?_)
          refine va_put (D := D) (cl := vwCl) (ci := 3) (v := .long y74) (ty := tyX3 12) (C := RX3) (T := TX3) (N := 13) hx hb hts in_X3_takeWord_X3 tyX3 tyX3_ok nmX3 hown hK hP hD hS 1 (wl_at (by decide) e63) rfl 12 (by decide) (hts (.fieldLink RX3 98 "EightReasons$Reader" "name" "J") (List.mem_of_getElem? (i := 1) rfl)) (fun _ h9 => h9) rfl (tyX3_ok 12 (by decide)) rfl rfl (Nat.le_of_ble_eq_true rfl) dX3_takeWord_57 (fun H locs hP hD hS => ?_)
          obtain ⟨f, hT, hP, hD, e75, hj76⟩ := stU (by decide) (TYx.up hT (by decide) (show OKx ad cy tx rby v5_p_rnx 1 _ from (show okX3 ad rby v5_p_rnx 1 _ from ⟨x52, x53, t55, x57, x59, x60, x61, y74, rfl, by omega, h56, by omega⟩))) hP hD
          have e77 := (hj76 2 (by decide)).trans e65
          refine lv_aload_n hx hb dX3_takeWord_60 rfl (lv_at hl 0 rfl) ?_
          refine lv_dup hx hb dX3_takeWord_61 rfl ?_
          refine va_get (D := D) (cl := vwCl) (ci := 3) (v := .int v5_p_rnx) (C := RX3) (T := TX3) (N := 13) hx hb hts in_X3_takeWord_X3 hown hK hP 1 (wl_at (by decide) e75) rfl 8 (by decide) (hts (.fieldLink RX3 61 "EightReasons$Reader" "next" "I") (List.mem_of_getElem? (i := 2) rfl)) (fun _ h9 => h9) rfl dX3_takeWord_62 ?_
          refine lv_iconst (v := 1) hx hb dX3_takeWord_65 (by decide) ?_
          have ttl_1 := tl_1
          refine lv_iadd hx hb dX3_takeWord_66 ?_
          refine lv_topi (fun x78 ex78 => ?_)
          have hx78 := r_add ex78 (by omega) (by omega)
          refine va_put (D := D) (cl := vwCl) (ci := 3) (v := .int x78) (ty := tyX3 8) (C := RX3) (T := TX3) (N := 13) hx hb hts in_X3_takeWord_X3 tyX3 tyX3_ok nmX3 hown hK hP hD hS 1 (wl_at (by decide) e75) rfl 8 (by decide) (hts (.fieldLink RX3 61 "EightReasons$Reader" "next" "I") (List.mem_of_getElem? (i := 2) rfl)) (fun _ h9 => h9) rfl (tyX3_ok 8 (by decide)) rfl rfl (Nat.le_of_ble_eq_true rfl) dX3_takeWord_67 (fun H locs hP hD hS => ?_)
          obtain ⟨f, hT, hP, hD, e79, hj80⟩ := stU (by decide) (TYx.p1 hT (show OKx ad cy tx rby x78 1 _ from (show okX3 ad rby x78 1 _ from ⟨x52, x53, t55, x57, x59, x60, x61, y74, rfl, by omega, h56, by omega⟩))) hP hD
          have e81 := (hj80 2 (by decide)).trans e77
          refine lv_goto (tgt := 5) hx hb dX3_takeWord_70 (by decide) ?_
          exact ih5 f H locs ls x78 (by omega) (by omega) hT hP hD hS (lv_sub hl [0] rfl)
        · refine lv_if_eq (tgt := 73) hx hb dX3_takeWord_28 (by decide) (fun _ => ?_) (fun c => absurd (by decide) c)
          exact j73 f H locs ls v5_p_rnx hT hP hD hS (lv_sub hl [0] rfl)
  refine lv_aload_n hx hb dX3_takeWord_0 rfl (lv_at hl 0 rfl) ?_
  have ttlj_0 := tlj_0
  refine lv_lconst (v := 0) hx hb dX3_takeWord_1 (by decide) ?_
  obtain ⟨x82, x83, t85, x87, x89, x90, x91, y92, e93, h84, h86, h88⟩ := (show okX3 ad rby rnx 1 (f 1) from hT.1 1 (by decide))
  refine va_put (D := D) (cl := vwCl) (ci := 3) (v := .long 0) (ty := tyX3 12) (C := RX3) (T := TX3) (N := 13) hx hb hts in_X3_takeWord_X3 tyX3 tyX3_ok nmX3 hown hK hP hD hS 1 (wl_at (by decide) e93) rfl 12 (by decide) (hts (.fieldLink RX3 98 "EightReasons$Reader" "name" "J") (List.mem_of_getElem? (i := 1) rfl)) (fun _ h9 => h9) rfl (tyX3_ok 12 (by decide)) rfl rfl (Nat.le_of_ble_eq_true rfl) dX3_takeWord_2 (fun H locs hP hD hS => ?_)
  obtain ⟨f, hT, hP, hD, e94, hj95⟩ := stU (by decide) (TYx.up hT (by decide) (show OKx ad cy tx rby rnx 1 _ from (show okX3 ad rby rnx 1 _ from ⟨x82, x83, t85, x87, x89, x90, x91, 0, rfl, by omega, h86, by omega⟩))) hP hD
  exact j5 (Int.toNat (1601 - rnx.toInt)) f H locs ls rnx (by omega) (by omega) hT hP hD hS (lv_sub hl [0] rfl)
set_option maxHeartbeats 4000000 in
set_option maxRecDepth 100000 in
theorem s_X3_advance_0 (l : Launch) (B0 : Nat) (adK adV : Nat → Nat) (D : va_G) (cy : Nat → ClassId) (ad : Nat → Nat) (fr0 : Nat → va_E) (tx : Int32) (rby : Int32) (rnx : Int32) (f : Nat → va_E) (hT : TYx ad cy fr0 tx rby rnx f) (sz : Nat) : TtV l yX3_advance wsX3_advance 4 106 [.ref (ad 1)] B0 adK adV D cy ad f sz (fun (g : Nat → va_E) => True ∧ (∃ (rnx' : Int32), TYx ad cy fr0 tx rby rnx' g)) := by
  refine TtV.of (cc := cX3_advance) (maxL := 2) (own := RX3) (by decide) rfl (Nat.le_of_ble_eq_true rfl) rfl ?_
  intro p e s m below meth c A ls hx hb hr hml hts hown hlk hK hE hP hD hS hA hAB hl
  have hl : lv_has ls 2 [(0, .ref (ad 1))] := hl
  refine st0 (fun H locs hP hS => ?_) hP hS
  have j142 : ∀ (f : Nat → va_E) (H : Heap) (locs : List Loc) (ls : Array Slot) (v142_l1 : Int32) (v142_s1 : Int32) (v142_p_rnx : Int32), (0 ≤ v142_l1.toInt ∧ v142_l1.toInt ≤ 255) → (0 ≤ v142_s1.toInt ∧ v142_s1.toInt ≤ 255) → (1 ≤ rby.toInt ∧ rby.toInt ≤ 1600) → (0 ≤ v142_p_rnx.toInt ∧ v142_p_rnx.toInt ≤ 1599) → (TYx ad cy fr0 tx rby v142_p_rnx f) → (va_P D vwCl (wl ad f) H) → (va_D A (wl ad f)) → (va_S A s.heap H locs) → (lv_has ls 2 [(1, .int v142_l1), (0, .ref (ad 1))]) → W p l e (rmO 4 106 0 0) s m ([.ref (ad 1)] : List Value).toArray below meth c H locs 0 0 (MQ below (va_Qv (fun (g : Nat → va_E) => True ∧ (∃ (rnx' : Int32), TYx ad cy fr0 tx rby rnx' g)) (fun g t => PstT D ad g t) A) ([.ref (ad 1)] : List Value).toArray s 0 0 A) (F0 m 142 ls [.int v142_s1, .ref (ad 1)]) := by
    intro f H locs ls v142_l1 v142_s1 v142_p_rnx hv142_l1 hv142_s1 hv142_p_rby hv142_p_rnx hT hP hD hS hl
    obtain ⟨x1, x2, t4, x6, x8, x9, x10, y11, e12, h3, h5, h7⟩ := (show okX3 ad rby v142_p_rnx 1 (f 1) from hT.1 1 (by decide))
    refine va_put (D := D) (cl := vwCl) (ci := 3) (v := .int v142_s1) (ty := tyX3 10) (C := RX3) (T := TX3) (N := 13) hx hb hts in_X3_advance_X3 tyX3 tyX3_ok nmX3 hown hK hP hD hS 1 (wl_at (by decide) e12) rfl 10 (by decide) (hts (.fieldLink RX3 67 "EightReasons$Reader" "kind" "I") (List.mem_of_getElem? (i := 5) rfl)) (fun _ h9 => h9) rfl (tyX3_ok 10 (by decide)) rfl rfl (Nat.le_of_ble_eq_true rfl) dX3_advance_142 (fun H locs hP hD hS => ?_)
    obtain ⟨f, hT, hP, hD, e13, hj14⟩ := stU (by decide) (TYx.up hT (by decide) (show OKx ad cy tx rby v142_p_rnx 1 _ from (show okX3 ad rby v142_p_rnx 1 _ from ⟨x1, x2, t4, x6, x8, v142_s1, x10, y11, rfl, by omega, h5, by omega⟩))) hP hD
    refine lv_aload_n hx hb dX3_advance_145 rfl (lv_at hl 1 rfl) ?_
    refine lv_dup hx hb dX3_advance_146 rfl ?_
    refine va_get (D := D) (cl := vwCl) (ci := 3) (v := .int v142_p_rnx) (C := RX3) (T := TX3) (N := 13) hx hb hts in_X3_advance_X3 hown hK hP 1 (wl_at (by decide) e13) rfl 8 (by decide) (hts (.fieldLink RX3 61 "EightReasons$Reader" "next" "I") (List.mem_of_getElem? (i := 1) rfl)) (fun _ h9 => h9) rfl dX3_advance_147 ?_
    refine lv_iconst (v := 1) hx hb dX3_advance_150 (by decide) ?_
    have ttl_1 := tl_1
    refine lv_iadd hx hb dX3_advance_151 ?_
    refine lv_topi (fun x15 ex15 => ?_)
    have hx15 := r_add ex15 (by omega) (by omega)
    refine va_put (D := D) (cl := vwCl) (ci := 3) (v := .int x15) (ty := tyX3 8) (C := RX3) (T := TX3) (N := 13) hx hb hts in_X3_advance_X3 tyX3 tyX3_ok nmX3 hown hK hP hD hS 1 (wl_at (by decide) e13) rfl 8 (by decide) (hts (.fieldLink RX3 61 "EightReasons$Reader" "next" "I") (List.mem_of_getElem? (i := 1) rfl)) (fun _ h9 => h9) rfl (tyX3_ok 8 (by decide)) rfl rfl (Nat.le_of_ble_eq_true rfl) dX3_advance_152 (fun H locs hP hD hS => ?_)
    obtain ⟨f, hT, hP, hD, e16, hj17⟩ := stU (by decide) (TYx.p1 hT (show OKx ad cy tx rby x15 1 _ from (show okX3 ad rby x15 1 _ from ⟨x1, x2, t4, x6, x8, v142_s1, x10, y11, rfl, by omega, h5, by omega⟩))) hP hD
    exact tV hx hb hr hlk hP hS ⟨trivial, ⟨x15, hT⟩⟩ dX3_advance_155
  have j39 : ∀ (f : Nat → va_E) (H : Heap) (locs : List Loc) (ls : Array Slot) (v39_p_rnx : Int32), (TYx ad cy fr0 tx rby v39_p_rnx f) → (va_P D vwCl (wl ad f) H) → (va_D A (wl ad f)) → (va_S A s.heap H locs) → (lv_has ls 2 [(0, .ref (ad 1))]) → W p l e (rmO 4 106 0 0) s m ([.ref (ad 1)] : List Value).toArray below meth c H locs 0 0 (MQ below (va_Qv (fun (g : Nat → va_E) => True ∧ (∃ (rnx' : Int32), TYx ad cy fr0 tx rby rnx' g)) (fun g t => PstT D ad g t) A) ([.ref (ad 1)] : List Value).toArray s 0 0 A) (F0 m 39 ls []) := by
    intro f H locs ls v39_p_rnx hT hP hD hS hl
    refine lv_aload_n hx hb dX3_advance_39 rfl (lv_at hl 0 rfl) ?_
    refine lv_aload_n hx hb dX3_advance_40 rfl (lv_at hl 0 rfl) ?_
    obtain ⟨x18, x19, t21, x23, x25, x26, x27, y28, e29, h20, h22, h24⟩ := (show okX3 ad rby v39_p_rnx 1 (f 1) from hT.1 1 (by decide))
    refine va_get (D := D) (cl := vwCl) (ci := 3) (v := .int v39_p_rnx) (C := RX3) (T := TX3) (N := 13) hx hb hts in_X3_advance_X3 hown hK hP 1 (wl_at (by decide) e29) rfl 8 (by decide) (hts (.fieldLink RX3 61 "EightReasons$Reader" "next" "I") (List.mem_of_getElem? (i := 1) rfl)) (fun _ h9 => h9) rfl dX3_advance_41 ?_
    refine va_put (D := D) (cl := vwCl) (ci := 3) (v := .int v39_p_rnx) (ty := tyX3 9) (C := RX3) (T := TX3) (N := 13) hx hb hts in_X3_advance_X3 tyX3 tyX3_ok nmX3 hown hK hP hD hS 1 (wl_at (by decide) e29) rfl 9 (by decide) (hts (.fieldLink RX3 77 "EightReasons$Reader" "at" "I") (List.mem_of_getElem? (i := 4) rfl)) (fun _ h9 => h9) rfl (tyX3_ok 9 (by decide)) rfl rfl (Nat.le_of_ble_eq_true rfl) dX3_advance_44 (fun H locs hP hD hS => ?_)
    obtain ⟨f, hT, hP, hD, e30, hj31⟩ := stU (by decide) (TYx.up hT (by decide) (show OKx ad cy tx rby v39_p_rnx 1 _ from (show okX3 ad rby v39_p_rnx 1 _ from ⟨x18, x19, t21, x23, v39_p_rnx, x26, x27, y28, rfl, by omega, h22, by omega⟩))) hP hD
    refine lv_aload_n hx hb dX3_advance_47 rfl (lv_at hl 0 rfl) ?_
    refine va_get (D := D) (cl := vwCl) (ci := 3) (v := .int v39_p_rnx) (C := RX3) (T := TX3) (N := 13) hx hb hts in_X3_advance_X3 hown hK hP 1 (wl_at (by decide) e30) rfl 8 (by decide) (hts (.fieldLink RX3 61 "EightReasons$Reader" "next" "I") (List.mem_of_getElem? (i := 1) rfl)) (fun _ h9 => h9) rfl dX3_advance_48 ?_
    refine lv_aload_n hx hb dX3_advance_51 rfl (lv_at hl 0 rfl) ?_
    refine va_get (D := D) (cl := vwCl) (ci := 3) (v := .int rby) (C := RX3) (T := TX3) (N := 13) hx hb hts in_X3_advance_X3 hown hK hP 1 (wl_at (by decide) e30) rfl 2 (by decide) (hts (.fieldLink RX3 49 "EightReasons$Reader" "bytes" "I") (List.mem_of_getElem? (i := 2) rfl)) (fun _ h9 => h9) rfl dX3_advance_52 ?_
    refine lv_icmp_lt (tgt := 67) hx hb dX3_advance_55 (by decide) (fun c32 => ?_) (fun c32 => ?_)
    · have kc32 := c_lt c32
      refine lv_aload_n hx hb dX3_advance_67 rfl (lv_at hl 0 rfl) ?_
      refine va_get (D := D) (cl := vwCl) (ci := 3) (v := .ref (ad 2)) (C := RX3) (T := TX3) (N := 13) hx hb hts in_X3_advance_X3 hown hK hP 1 (wl_at (by decide) e30) rfl 3 (by decide) (hts (.fieldLink RX3 15 "EightReasons$Reader" "tape" "[B") (List.mem_of_getElem? (i := 3) rfl)) (fun _ h9 => h9) rfl dX3_advance_68 ?_
      refine lv_aload_n hx hb dX3_advance_71 rfl (lv_at hl 0 rfl) ?_
      refine va_get (D := D) (cl := vwCl) (ci := 3) (v := .int v39_p_rnx) (C := RX3) (T := TX3) (N := 13) hx hb hts in_X3_advance_X3 hown hK hP 1 (wl_at (by decide) e30) rfl 8 (by decide) (hts (.fieldLink RX3 61 "EightReasons$Reader" "next" "I") (List.mem_of_getElem? (i := 1) rfl)) (fun _ h9 => h9) rfl dX3_advance_72 ?_
      obtain ⟨g34, e33⟩ := (show okB cy 1600 (f 2) from hT.1 2 (by decide))
      refine va_bald hx hb hK hP 2 1 (wl_at (by decide) e33) rfl (vp_in_iff.mpr ⟨by omega, by omega⟩) dX3_advance_75 ?_
      refine lv_topi (fun x35 ex35 => ?_)
      refine tSI (As := [.int x35]) (rest := []) ⟨hx, hb, hml, hown, hts⟩ hK hE hP hD hS hA hAB (s_X3_isLetter_0 l B0 adK adV D cy ad f x35 _) (va_cwS 1 hts gX3_advance_X3_isLetter rfl rfl rfl (by decide +kernel) ⟨Nat.le_of_ble_eq_true rfl, Nat.le_of_ble_eq_true rfl⟩) rfl hl.1 rfl (Nat.le_of_ble_eq_true rfl) dX3_advance_76 ⟨Nat.le_of_ble_eq_true rfl, Nat.le_of_ble_eq_true rfl⟩ (fun r g H locs hw hP hD hS => ?_)
      obtain ⟨hrs, rfl⟩ := hw
      obtain ⟨x36, rfl⟩ : ∃ q, q = r := ⟨_, rfl⟩
      rcases hrs with rfl | rfl
      · refine lv_if_eq (tgt := 89) hx hb dX3_advance_79 (by decide) (fun c => absurd c (by decide)) (fun _ => ?_)
        refine lv_aload_n hx hb dX3_advance_82 rfl (lv_at hl 0 rfl) ?_
        refine tVV (As := []) (rest := []) (i := 1) ⟨hx, hb, hml, hown, hts⟩ hK hE hP hD hS hA hAB (s_X3_takeWord_0 l B0 adK adV D cy ad fr0 tx rby v39_p_rnx f hT _) (cwV 0 hts gX3_advance_X3_takeWord rfl rfl rfl (by decide +kernel) ⟨Nat.le_of_ble_eq_true rfl, Nat.le_of_ble_eq_true rfl⟩) (by decide) 3 e30 rfl rfl hl.1 rfl (Nat.le_of_ble_eq_true rfl) dX3_advance_83 ⟨Nat.le_of_ble_eq_true rfl, Nat.le_of_ble_eq_true rfl⟩ (fun f H locs hw hP hD hS => ?_)
        obtain ⟨hrs, x37, hT⟩ := hw
        refine lv_goto (tgt := 155) hx hb dX3_advance_86 (by decide) ?_
        exact tV hx hb hr hlk hP hS ⟨trivial, ⟨x37, hT⟩⟩ dX3_advance_155
      · refine lv_if_eq (tgt := 89) hx hb dX3_advance_79 (by decide) (fun _ => ?_) (fun c => absurd (by decide) c)
        refine lv_aload_n hx hb dX3_advance_89 rfl (lv_at hl 0 rfl) ?_
        refine va_get (D := D) (cl := vwCl) (ci := 3) (v := .ref (ad 2)) (C := RX3) (T := TX3) (N := 13) hx hb hts in_X3_advance_X3 hown hK hP 1 (wl_at (by decide) e30) rfl 3 (by decide) (hts (.fieldLink RX3 15 "EightReasons$Reader" "tape" "[B") (List.mem_of_getElem? (i := 3) rfl)) (fun _ h9 => h9) rfl dX3_advance_90 ?_
        refine lv_aload_n hx hb dX3_advance_93 rfl (lv_at hl 0 rfl) ?_
        refine va_get (D := D) (cl := vwCl) (ci := 3) (v := .int v39_p_rnx) (C := RX3) (T := TX3) (N := 13) hx hb hts in_X3_advance_X3 hown hK hP 1 (wl_at (by decide) e30) rfl 8 (by decide) (hts (.fieldLink RX3 61 "EightReasons$Reader" "next" "I") (List.mem_of_getElem? (i := 1) rfl)) (fun _ h9 => h9) rfl dX3_advance_94 ?_
        refine va_bald hx hb hK hP 2 1 (wl_at (by decide) e33) rfl (vp_in_iff.mpr ⟨by omega, by omega⟩) dX3_advance_97 ?_
        refine lv_topi (fun x38 ex38 => ?_)
        refine tSI (As := [.int x38]) (rest := []) ⟨hx, hb, hml, hown, hts⟩ hK hE hP hD hS hA hAB (s_X3_isDigit_0 l B0 adK adV D cy ad f x38 _) (va_cwS 1 hts gX3_advance_X3_isDigit rfl rfl rfl (by decide +kernel) ⟨Nat.le_of_ble_eq_true rfl, Nat.le_of_ble_eq_true rfl⟩) rfl hl.1 rfl (Nat.le_of_ble_eq_true rfl) dX3_advance_98 ⟨Nat.le_of_ble_eq_true rfl, Nat.le_of_ble_eq_true rfl⟩ (fun r g H locs hw hP hD hS => ?_)
        obtain ⟨hrs, rfl⟩ := hw
        obtain ⟨x39, rfl⟩ : ∃ q, q = r := ⟨_, rfl⟩
        rcases hrs with rfl | rfl
        · refine lv_if_eq (tgt := 111) hx hb dX3_advance_101 (by decide) (fun c => absurd c (by decide)) (fun _ => ?_)
          refine lv_aload_n hx hb dX3_advance_104 rfl (lv_at hl 0 rfl) ?_
          refine tVV (As := []) (rest := []) (i := 1) ⟨hx, hb, hml, hown, hts⟩ hK hE hP hD hS hA hAB (s_X3_takeNumber_0 l B0 adK adV D cy ad fr0 tx rby v39_p_rnx f hT _) (cwV 0 hts gX3_advance_X3_takeNumber rfl rfl rfl (by decide +kernel) ⟨Nat.le_of_ble_eq_true rfl, Nat.le_of_ble_eq_true rfl⟩) (by decide) 3 e30 rfl rfl hl.1 rfl (Nat.le_of_ble_eq_true rfl) dX3_advance_105 ⟨Nat.le_of_ble_eq_true rfl, Nat.le_of_ble_eq_true rfl⟩ (fun f H locs hw hP hD hS => ?_)
          obtain ⟨hrs, x40, hT⟩ := hw
          refine lv_goto (tgt := 155) hx hb dX3_advance_108 (by decide) ?_
          exact tV hx hb hr hlk hP hS ⟨trivial, ⟨x40, hT⟩⟩ dX3_advance_155
        · refine lv_if_eq (tgt := 111) hx hb dX3_advance_101 (by decide) (fun _ => ?_) (fun c => absurd (by decide) c)
          refine lv_aload_n hx hb dX3_advance_111 rfl (lv_at hl 0 rfl) ?_
          refine va_get (D := D) (cl := vwCl) (ci := 3) (v := .ref (ad 2)) (C := RX3) (T := TX3) (N := 13) hx hb hts in_X3_advance_X3 hown hK hP 1 (wl_at (by decide) e30) rfl 3 (by decide) (hts (.fieldLink RX3 15 "EightReasons$Reader" "tape" "[B") (List.mem_of_getElem? (i := 3) rfl)) (fun _ h9 => h9) rfl dX3_advance_112 ?_
          refine lv_aload_n hx hb dX3_advance_115 rfl (lv_at hl 0 rfl) ?_
          refine va_get (D := D) (cl := vwCl) (ci := 3) (v := .int v39_p_rnx) (C := RX3) (T := TX3) (N := 13) hx hb hts in_X3_advance_X3 hown hK hP 1 (wl_at (by decide) e30) rfl 8 (by decide) (hts (.fieldLink RX3 61 "EightReasons$Reader" "next" "I") (List.mem_of_getElem? (i := 1) rfl)) (fun _ h9 => h9) rfl dX3_advance_116 ?_
          refine va_bald hx hb hK hP 2 1 (wl_at (by decide) e33) rfl (vp_in_iff.mpr ⟨by omega, by omega⟩) dX3_advance_119 ?_
          refine lv_topi (fun x41 ex41 => ?_)
          refine lv_sipush (v := 255) hx hb dX3_advance_120 (by decide) ?_
          have ttl_255 := tl_255
          refine lv_iand hx hb dX3_advance_123 ?_
          refine lv_topi (fun x42 ex42 => ?_)
          have hx42 := r_andr ex42 (by omega)
          refine lv_istore_n (lv' := [(1, .int x42), (0, .ref (ad 1))]) hx hb dX3_advance_124 rfl hl (by decide) rfl (fun ls hl => ?_)
          refine lv_aload_n hx hb dX3_advance_125 rfl (lv_at hl 1 rfl) ?_
          refine va_ldcS hx hb hown hE.2.2.2.1.2 dX3_advance_126 ?_
          refine lv_iload_n hx hb dX3_advance_128 rfl (lv_at hl 0 rfl) ?_
          refine lv_i2c hx hb dX3_advance_129 rfl ?_
          refine lv_topi (fun x43 ex43 => ?_)
          have hEs : SE adK adV nA s H := (hE.2.2.2.2.kept (fun q h1 h2 => hS.2.1 q h1 (fun z => h2 (hAB q z)))).narrow (fun _ h => h.elim)
          refine clEV (As := [.int x43]) (rest := [.ref (ad 1)]) ⟨hx, hb, hml, hown, hts⟩ hS hEs (sg_idx l adK adV x43) (cwV 1 hts gX3_advance_J0_indexOf_0f7a4 rfl rfl rfl (by decide +kernel) ⟨Nat.le_of_ble_eq_true rfl, Nat.le_of_ble_eq_true rfl⟩) (vk_recvS hEs) rfl hl.1 rfl (Nat.le_of_ble_eq_true rfl) dX3_advance_130 ⟨Nat.le_of_ble_eq_true rfl, Nat.le_of_ble_eq_true rfl⟩ (fun x44 H locs hw hz hk hS => ?_)
          have hP := P_same hP hk
          have ttl_0 := tl_0
          refine lv_if_lt (tgt := 140) hx hb dX3_advance_133 (by decide) (fun c45 => ?_) (fun c45 => ?_)
          · have kc45 := c_lt c45
            refine lv_bipush (v := 17) hx hb dX3_advance_140 (by decide) ?_
            have ttl_17 := tl_17
            exact j142 f H locs ls x42 (17 : Int32) v39_p_rnx (by omega) (by omega) (by omega) (by omega) hT hP hD hS (lv_sub hl [0, 1] rfl)
          · have kc45 := c_nlt c45
            refine lv_iload_n hx hb dX3_advance_136 rfl (lv_at hl 0 rfl) ?_
            refine lv_goto (tgt := 142) hx hb dX3_advance_137 (by decide) ?_
            exact j142 f H locs ls x42 x42 v39_p_rnx (by omega) (by omega) (by omega) (by omega) hT hP hD hS (lv_sub hl [0, 1] rfl)
    · have kc32 := c_nlt c32
      refine lv_aload_n hx hb dX3_advance_58 rfl (lv_at hl 0 rfl) ?_
      refine lv_bipush (v := 16) hx hb dX3_advance_59 (by decide) ?_
      refine va_put (D := D) (cl := vwCl) (ci := 3) (v := .int 16) (ty := tyX3 10) (C := RX3) (T := TX3) (N := 13) hx hb hts in_X3_advance_X3 tyX3 tyX3_ok nmX3 hown hK hP hD hS 1 (wl_at (by decide) e30) rfl 10 (by decide) (hts (.fieldLink RX3 67 "EightReasons$Reader" "kind" "I") (List.mem_of_getElem? (i := 5) rfl)) (fun _ h9 => h9) rfl (tyX3_ok 10 (by decide)) rfl rfl (Nat.le_of_ble_eq_true rfl) dX3_advance_61 (fun H locs hP hD hS => ?_)
      obtain ⟨f, hT, hP, hD, e46, hj47⟩ := stU (by decide) (TYx.up hT (by decide) (show OKx ad cy tx rby v39_p_rnx 1 _ from (show okX3 ad rby v39_p_rnx 1 _ from ⟨x18, x19, t21, x23, v39_p_rnx, (16 : Int32), x27, y28, rfl, by omega, h22, by omega⟩))) hP hD
      refine lv_goto (tgt := 155) hx hb dX3_advance_64 (by decide) ?_
      exact tV hx hb hr hlk hP hS ⟨trivial, ⟨v39_p_rnx, hT⟩⟩ dX3_advance_155
  have j0 : ∀ (N : Nat) (f : Nat → va_E) (H : Heap) (locs : List Loc) (ls : Array Slot) (v0_p_rnx : Int32), (1601 - v0_p_rnx.toInt ≤ (N : Int)) → (0 ≤ v0_p_rnx.toInt ∧ v0_p_rnx.toInt ≤ 1600) → (TYx ad cy fr0 tx rby v0_p_rnx f) → (va_P D vwCl (wl ad f) H) → (va_D A (wl ad f)) → (va_S A s.heap H locs) → (lv_has ls 2 [(0, .ref (ad 1))]) → W p l e (rmO 4 106 0 0) s m ([.ref (ad 1)] : List Value).toArray below meth c H locs 0 0 (MQ below (va_Qv (fun (g : Nat → va_E) => True ∧ (∃ (rnx' : Int32), TYx ad cy fr0 tx rby rnx' g)) (fun g t => PstT D ad g t) A) ([.ref (ad 1)] : List Value).toArray s 0 0 A) (F0 m 0 ls []) := by
    intro N
    induction N with
    | zero => intro f H locs ls v0_p_rnx hN hJ0_0 hT hP hD hS hl; exact absurd hN (by omega)
    | succ N ih0 =>
      intro f H locs ls v0_p_rnx hN hJ0_0 hT hP hD hS hl
      refine lv_aload_n hx hb dX3_advance_0 rfl (lv_at hl 0 rfl) ?_
      obtain ⟨x48, x49, t51, x53, x55, x56, x57, y58, e59, h50, h52, h54⟩ := (show okX3 ad rby v0_p_rnx 1 (f 1) from hT.1 1 (by decide))
      refine va_get (D := D) (cl := vwCl) (ci := 3) (v := .int v0_p_rnx) (C := RX3) (T := TX3) (N := 13) hx hb hts in_X3_advance_X3 hown hK hP 1 (wl_at (by decide) e59) rfl 8 (by decide) (hts (.fieldLink RX3 61 "EightReasons$Reader" "next" "I") (List.mem_of_getElem? (i := 1) rfl)) (fun _ h9 => h9) rfl dX3_advance_1 ?_
      refine lv_aload_n hx hb dX3_advance_4 rfl (lv_at hl 0 rfl) ?_
      refine va_get (D := D) (cl := vwCl) (ci := 3) (v := .int rby) (C := RX3) (T := TX3) (N := 13) hx hb hts in_X3_advance_X3 hown hK hP 1 (wl_at (by decide) e59) rfl 2 (by decide) (hts (.fieldLink RX3 49 "EightReasons$Reader" "bytes" "I") (List.mem_of_getElem? (i := 2) rfl)) (fun _ h9 => h9) rfl dX3_advance_5 ?_
      refine lv_icmp_ge (tgt := 39) hx hb dX3_advance_8 (by decide) (fun c60 => ?_) (fun c60 => ?_)
      · have kc60 := c_le c60
        exact j39 f H locs ls v0_p_rnx hT hP hD hS (lv_sub hl [0] rfl)
      · have kc60 := c_nle c60
        refine lv_aload_n hx hb dX3_advance_11 rfl (lv_at hl 0 rfl) ?_
        refine va_get (D := D) (cl := vwCl) (ci := 3) (v := .ref (ad 2)) (C := RX3) (T := TX3) (N := 13) hx hb hts in_X3_advance_X3 hown hK hP 1 (wl_at (by decide) e59) rfl 3 (by decide) (hts (.fieldLink RX3 15 "EightReasons$Reader" "tape" "[B") (List.mem_of_getElem? (i := 3) rfl)) (fun _ h9 => h9) rfl dX3_advance_12 ?_
        refine lv_aload_n hx hb dX3_advance_15 rfl (lv_at hl 0 rfl) ?_
        refine va_get (D := D) (cl := vwCl) (ci := 3) (v := .int v0_p_rnx) (C := RX3) (T := TX3) (N := 13) hx hb hts in_X3_advance_X3 hown hK hP 1 (wl_at (by decide) e59) rfl 8 (by decide) (hts (.fieldLink RX3 61 "EightReasons$Reader" "next" "I") (List.mem_of_getElem? (i := 1) rfl)) (fun _ h9 => h9) rfl dX3_advance_16 ?_
        obtain ⟨g62, e61⟩ := (show okB cy 1600 (f 2) from hT.1 2 (by decide))
        refine va_bald hx hb hK hP 2 1 (wl_at (by decide) e61) rfl (vp_in_iff.mpr ⟨by omega, by omega⟩) dX3_advance_19 ?_
        refine lv_topi (fun x63 ex63 => ?_)
        refine tSI (As := [.int x63]) (rest := []) ⟨hx, hb, hml, hown, hts⟩ hK hE hP hD hS hA hAB (s_X3_isBlank_0 l B0 adK adV D cy ad f x63 _) (va_cwS 1 hts gX3_advance_X3_isBlank rfl rfl rfl (by decide +kernel) ⟨Nat.le_of_ble_eq_true rfl, Nat.le_of_ble_eq_true rfl⟩) rfl hl.1 rfl (Nat.le_of_ble_eq_true rfl) dX3_advance_20 ⟨Nat.le_of_ble_eq_true rfl, Nat.le_of_ble_eq_true rfl⟩ (fun r g H locs hw hP hD hS => ?_)
        obtain ⟨hrs, rfl⟩ := hw
        obtain ⟨x64, rfl⟩ : ∃ q, q = r := ⟨_, rfl⟩
        rcases hrs with rfl | rfl
        · refine lv_if_eq (tgt := 39) hx hb dX3_advance_23 (by decide) (fun c => absurd c (by decide)) (fun _ => ?_)
          refine lv_aload_n hx hb dX3_advance_26 rfl (lv_at hl 0 rfl) ?_
          refine lv_dup hx hb dX3_advance_27 rfl ?_
          refine va_get (D := D) (cl := vwCl) (ci := 3) (v := .int v0_p_rnx) (C := RX3) (T := TX3) (N := 13) hx hb hts in_X3_advance_X3 hown hK hP 1 (wl_at (by decide) e59) rfl 8 (by decide) (hts (.fieldLink RX3 61 "EightReasons$Reader" "next" "I") (List.mem_of_getElem? (i := 1) rfl)) (fun _ h9 => h9) rfl dX3_advance_28 ?_
          refine lv_iconst (v := 1) hx hb dX3_advance_31 (by decide) ?_
          have ttl_1 := tl_1
          refine lv_iadd hx hb dX3_advance_32 ?_
          refine lv_topi (fun x65 ex65 => ?_)
          have hx65 := r_add ex65 (by omega) (by omega)
          refine va_put (D := D) (cl := vwCl) (ci := 3) (v := .int x65) (ty := tyX3 8) (C := RX3) (T := TX3) (N := 13) hx hb hts in_X3_advance_X3 tyX3 tyX3_ok nmX3 hown hK hP hD hS 1 (wl_at (by decide) e59) rfl 8 (by decide) (hts (.fieldLink RX3 61 "EightReasons$Reader" "next" "I") (List.mem_of_getElem? (i := 1) rfl)) (fun _ h9 => h9) rfl (tyX3_ok 8 (by decide)) rfl rfl (Nat.le_of_ble_eq_true rfl) dX3_advance_33 (fun H locs hP hD hS => ?_)
          obtain ⟨f, hT, hP, hD, e66, hj67⟩ := stU (by decide) (TYx.p1 hT (show OKx ad cy tx rby x65 1 _ from (show okX3 ad rby x65 1 _ from ⟨x48, x49, t51, x53, x55, x56, x57, y58, rfl, by omega, h52, by omega⟩))) hP hD
          have e68 := (hj67 2 (by decide)).trans e61
          refine lv_goto (tgt := 0) hx hb dX3_advance_36 (by decide) ?_
          exact ih0 f H locs ls x65 (by omega) (by omega) hT hP hD hS (lv_sub hl [0] rfl)
        · refine lv_if_eq (tgt := 39) hx hb dX3_advance_23 (by decide) (fun _ => ?_) (fun c => absurd (by decide) c)
          exact j39 f H locs ls v0_p_rnx hT hP hD hS (lv_sub hl [0] rfl)
  obtain ⟨x69, x70, t72, x74, x76, x77, x78, y79, e80, h71, h73, h75⟩ := (show okX3 ad rby rnx 1 (f 1) from hT.1 1 (by decide))
  exact j0 (Int.toNat (1601 - rnx.toInt)) f H locs ls rnx (by omega) (by omega) hT hP hD hS (lv_sub hl [0] rfl)
set_option maxHeartbeats 4000000 in
set_option maxRecDepth 100000 in
theorem s_X3_blame_0 (l : Launch) (B0 : Nat) (adK adV : Nat → Nat) (D : va_G) (cy : Nat → ClassId) (ad : Nat → Nat) (fr0 : Nat → va_E) (tx : Int32) (rby : Int32) (rnx : Int32) (f : Nat → va_E) (hT : TYx ad cy fr0 tx rby rnx f) (p1 : Int32) (hp1 : 1 ≤ p1.toInt ∧ p1.toInt ≤ 5) (sz : Nat) : TtV l yX3_blame wsX3_blame 0 0 [.ref (ad 1), .int p1] B0 adK adV D cy ad f sz (fun (g : Nat → va_E) => True ∧ (TYx ad cy fr0 tx rby rnx g)) := by
  refine TtV.of (cc := cX3_blame) (maxL := 2) (own := RX3) (by decide) rfl (Nat.le_of_ble_eq_true rfl) rfl ?_
  intro p e s m below meth c A ls hx hb hr hml hts hown hlk hK hE hP hD hS hA hAB hl
  have hl : lv_has ls 2 [(0, .ref (ad 1)), (1, .int p1)] := hl
  refine st0 (fun H locs hP hS => ?_) hP hS
  refine lv_aload_n hx hb dX3_blame_0 rfl (lv_at hl 0 rfl) ?_
  obtain ⟨x1, x2, t4, x6, x8, x9, x10, y11, e12, h3, h5, h7⟩ := (show okX3 ad rby rnx 1 (f 1) from hT.1 1 (by decide))
  refine va_get (D := D) (cl := vwCl) (ci := 3) (v := .int x1) (C := RX3) (T := TX3) (N := 13) hx hb hts in_X3_blame_X3 hown hK hP 1 (wl_at (by decide) e12) rfl 0 (by decide) (hts (.fieldLink RX3 55 "EightReasons$Reader" "fault" "I") (List.mem_of_getElem? (i := 1) rfl)) (fun _ h9 => h9) rfl dX3_blame_1 ?_
  have ttl_0 := tl_0
  refine lv_if_ne (tgt := 20) hx hb dX3_blame_4 (by decide) (fun c13 => ?_) (fun c13 => ?_)
  · have kc13 := c_ne c13
    exact tV hx hb hr hlk hP hS ⟨trivial, hT⟩ dX3_blame_20
  · have kc13 := c_eq c13
    refine lv_aload_n hx hb dX3_blame_7 rfl (lv_at hl 0 rfl) ?_
    refine lv_iload_n hx hb dX3_blame_8 rfl (lv_at hl 1 rfl) ?_
    refine va_put (D := D) (cl := vwCl) (ci := 3) (v := .int p1) (ty := tyX3 0) (C := RX3) (T := TX3) (N := 13) hx hb hts in_X3_blame_X3 tyX3 tyX3_ok nmX3 hown hK hP hD hS 1 (wl_at (by decide) e12) rfl 0 (by decide) (hts (.fieldLink RX3 55 "EightReasons$Reader" "fault" "I") (List.mem_of_getElem? (i := 1) rfl)) (fun _ h9 => h9) rfl (tyX3_ok 0 (by decide)) rfl rfl (Nat.le_of_ble_eq_true rfl) dX3_blame_9 (fun H locs hP hD hS => ?_)
    obtain ⟨f, hT, hP, hD, e14, hj15⟩ := stU (by decide) (TYx.up hT (by decide) (show OKx ad cy tx rby rnx 1 _ from (show okX3 ad rby rnx 1 _ from ⟨p1, x2, t4, x6, x8, x9, x10, y11, rfl, by omega, h5, by omega⟩))) hP hD
    refine lv_aload_n hx hb dX3_blame_12 rfl (lv_at hl 0 rfl) ?_
    refine lv_aload_n hx hb dX3_blame_13 rfl (lv_at hl 0 rfl) ?_
    refine va_get (D := D) (cl := vwCl) (ci := 3) (v := .int x8) (C := RX3) (T := TX3) (N := 13) hx hb hts in_X3_blame_X3 hown hK hP 1 (wl_at (by decide) e14) rfl 9 (by decide) (hts (.fieldLink RX3 77 "EightReasons$Reader" "at" "I") (List.mem_of_getElem? (i := 2) rfl)) (fun _ h9 => h9) rfl dX3_blame_14 ?_
    refine va_put (D := D) (cl := vwCl) (ci := 3) (v := .int x8) (ty := tyX3 1) (C := RX3) (T := TX3) (N := 13) hx hb hts in_X3_blame_X3 tyX3 tyX3_ok nmX3 hown hK hP hD hS 1 (wl_at (by decide) e14) rfl 1 (by decide) (hts (.fieldLink RX3 9 "EightReasons$Reader" "place" "I") (List.mem_of_getElem? (i := 3) rfl)) (fun _ h9 => h9) rfl (tyX3_ok 1 (by decide)) rfl rfl (Nat.le_of_ble_eq_true rfl) dX3_blame_17 (fun H locs hP hD hS => ?_)
    obtain ⟨f, hT, hP, hD, e16, hj17⟩ := stU (by decide) (TYx.up hT (by decide) (show OKx ad cy tx rby rnx 1 _ from (show okX3 ad rby rnx 1 _ from ⟨p1, x8, t4, x6, x8, x9, x10, y11, rfl, by omega, h5, by omega⟩))) hP hD
    exact tV hx hb hr hlk hP hS ⟨trivial, hT⟩ dX3_blame_20
set_option maxHeartbeats 4000000 in
set_option maxRecDepth 100000 in
theorem s_X3_begin_0 (l : Launch) (B0 : Nat) (adK adV : Nat → Nat) (D : va_G) (cy : Nat → ClassId) (ad : Nat → Nat) (fr0 : Nat → va_E) (tx : Int32) (rby : Int32) (rnx : Int32) (f : Nat → va_E) (hT : TYx ad cy fr0 tx rby rnx f) (p1 : Int32) (hp1 : 0 ≤ p1.toInt ∧ p1.toInt ≤ 1) (sz : Nat) : TtI l yX3_begin wsX3_begin 5 127 [.ref (ad 1), .int p1] B0 adK adV D cy ad f sz (fun (r : Int32) (g : Nat → va_E) => ((r = 1 ∧ p1.toInt = 1) ∨ (r = 0 ∧ p1.toInt = 0)) ∧ (∃ (rnx' : Int32), TYx ad cy fr0 tx rby rnx' g)) := by
  refine TtI.of (cc := cX3_begin) (maxL := 2) (ty := .boolean) (own := RX3) (by decide) rfl (Nat.le_of_ble_eq_true rfl) rfl ?_
  intro p e s m below meth c A ls hx hb hr hml hts hown hlk hK hE hP hD hS hA hAB hl
  have hl : lv_has ls 2 [(0, .ref (ad 1)), (1, .int p1)] := hl
  refine st0 (fun H locs hP hS => ?_) hP hS
  refine lv_iload_n hx hb dX3_begin_0 rfl (lv_at hl 1 rfl) ?_
  have ttl_0 := tl_0
  refine lv_if_eq (tgt := 11) hx hb dX3_begin_1 (by decide) (fun c1 => ?_) (fun c1 => ?_)
  · have kc1 := c_eq c1
    refine lv_aload_n hx hb dX3_begin_11 rfl (lv_at hl 0 rfl) ?_
    refine lv_iconst (v := 2) hx hb dX3_begin_12 (by decide) ?_
    have ttl_2 := tl_2
    obtain ⟨x2, x3, t5, x7, x9, x10, x11, y12, e13, h4, h6, h8⟩ := (show okX3 ad rby rnx 1 (f 1) from hT.1 1 (by decide))
    refine tVV (As := [.int 2]) (rest := []) (i := 1) ⟨hx, hb, hml, hown, hts⟩ hK hE hP hD hS hA hAB (s_X3_blame_0 l B0 adK adV D cy ad fr0 tx rby rnx f hT (2 : Int32) (by omega) _) (cwV 1 hts gX3_begin_X3_blame rfl rfl rfl (by decide +kernel) ⟨Nat.le_of_ble_eq_true rfl, Nat.le_of_ble_eq_true rfl⟩) (by decide) 3 e13 rfl rfl hl.1 rfl (Nat.le_of_ble_eq_true rfl) dX3_begin_13 ⟨Nat.le_of_ble_eq_true rfl, Nat.le_of_ble_eq_true rfl⟩ (fun f H locs hw hP hD hS => ?_)
    obtain ⟨hrs, hT⟩ := hw
    refine lv_iload_n hx hb dX3_begin_16 rfl (lv_at hl 1 rfl) ?_
    have hz01 := i01 (x := p1) (by omega)
    have ttl_0 := tl_0
    have ttl_1 := tl_1
    exact tI hx hb hr hlk (nar01 (by omega)) hP hS ⟨(hz01.elim (fun hz => (Or.inl ⟨hz, by have := c_eq hz; omega⟩)) (fun hz => (Or.inr ⟨hz, by have := c_eq hz; omega⟩))), ⟨rnx, hT⟩⟩ dX3_begin_17
  · have kc1 := c_ne c1
    refine lv_aload_n hx hb dX3_begin_4 rfl (lv_at hl 0 rfl) ?_
    obtain ⟨x14, x15, t17, x19, x21, x22, x23, y24, e25, h16, h18, h20⟩ := (show okX3 ad rby rnx 1 (f 1) from hT.1 1 (by decide))
    refine tVV (As := []) (rest := []) (i := 1) ⟨hx, hb, hml, hown, hts⟩ hK hE hP hD hS hA hAB (s_X3_advance_0 l B0 adK adV D cy ad fr0 tx rby rnx f hT _) (cwV 0 hts gX3_begin_X3_advance rfl rfl rfl (by decide +kernel) ⟨Nat.le_of_ble_eq_true rfl, Nat.le_of_ble_eq_true rfl⟩) (by decide) 3 e25 rfl rfl hl.1 rfl (Nat.le_of_ble_eq_true rfl) dX3_begin_5 ⟨Nat.le_of_ble_eq_true rfl, Nat.le_of_ble_eq_true rfl⟩ (fun f H locs hw hP hD hS => ?_)
    obtain ⟨hrs, x26, hT⟩ := hw
    refine lv_goto (tgt := 16) hx hb dX3_begin_8 (by decide) ?_
    refine lv_iload_n hx hb dX3_begin_16 rfl (lv_at hl 1 rfl) ?_
    have hz01 := i01 (x := p1) (by omega)
    have ttl_0 := tl_0
    have ttl_1 := tl_1
    exact tI hx hb hr hlk (nar01 (by omega)) hP hS ⟨(hz01.elim (fun hz => (Or.inl ⟨hz, by have := c_eq hz; omega⟩)) (fun hz => (Or.inr ⟨hz, by have := c_eq hz; omega⟩))), ⟨x26, hT⟩⟩ dX3_begin_17
set_option maxHeartbeats 4000000 in
set_option maxRecDepth 100000 in
theorem s_X3_refuse_0 (l : Launch) (B0 : Nat) (adK adV : Nat → Nat) (D : va_G) (cy : Nat → ClassId) (ad : Nat → Nat) (fr0 : Nat → va_E) (tx : Int32) (rby : Int32) (rnx : Int32) (f : Nat → va_E) (hT : TYx ad cy fr0 tx rby rnx f) (sz : Nat) : TtV l yX3_refuse wsX3_refuse 1 21 [.ref (ad 1)] B0 adK adV D cy ad f sz (fun (g : Nat → va_E) => True ∧ (TYx ad cy fr0 tx rby rnx g)) := by
  refine TtV.of (cc := cX3_refuse) (maxL := 1) (own := RX3) (by decide) rfl (Nat.le_of_ble_eq_true rfl) rfl ?_
  intro p e s m below meth c A ls hx hb hr hml hts hown hlk hK hE hP hD hS hA hAB hl
  have hl : lv_has ls 1 [(0, .ref (ad 1))] := hl
  refine st0 (fun H locs hP hS => ?_) hP hS
  have j15 : ∀ (f : Nat → va_E) (H : Heap) (locs : List Loc) (ls : Array Slot) (v15_s1 : Int32), (1 ≤ v15_s1.toInt ∧ v15_s1.toInt ≤ 2) → (TYx ad cy fr0 tx rby rnx f) → (va_P D vwCl (wl ad f) H) → (va_D A (wl ad f)) → (va_S A s.heap H locs) → (lv_has ls 1 [(0, .ref (ad 1))]) → W p l e (rmO 1 21 0 0) s m ([.ref (ad 1)] : List Value).toArray below meth c H locs 0 0 (MQ below (va_Qv (fun (g : Nat → va_E) => True ∧ (TYx ad cy fr0 tx rby rnx g)) (fun g t => PstT D ad g t) A) ([.ref (ad 1)] : List Value).toArray s 0 0 A) (F0 m 15 ls [.int v15_s1, .ref (ad 1)]) := by
    intro f H locs ls v15_s1 hv15_s1 hT hP hD hS hl
    obtain ⟨x1, x2, t4, x6, x8, x9, x10, y11, e12, h3, h5, h7⟩ := (show okX3 ad rby rnx 1 (f 1) from hT.1 1 (by decide))
    refine tVV (As := [.int v15_s1]) (rest := []) (i := 1) ⟨hx, hb, hml, hown, hts⟩ hK hE hP hD hS hA hAB (s_X3_blame_0 l B0 adK adV D cy ad fr0 tx rby rnx f hT v15_s1 (by omega) _) (cwV 1 hts gX3_refuse_X3_blame rfl rfl rfl (by decide +kernel) ⟨Nat.le_of_ble_eq_true rfl, Nat.le_of_ble_eq_true rfl⟩) (by decide) 3 e12 rfl rfl hl.1 rfl (Nat.le_of_ble_eq_true rfl) dX3_refuse_15 ⟨Nat.le_of_ble_eq_true rfl, Nat.le_of_ble_eq_true rfl⟩ (fun f H locs hw hP hD hS => ?_)
    obtain ⟨hrs, hT⟩ := hw
    exact tV hx hb hr hlk hP hS ⟨trivial, hT⟩ dX3_refuse_18
  refine lv_aload_n hx hb dX3_refuse_0 rfl (lv_at hl 0 rfl) ?_
  refine lv_aload_n hx hb dX3_refuse_1 rfl (lv_at hl 0 rfl) ?_
  obtain ⟨x13, x14, t16, x18, x20, x21, x22, y23, e24, h15, h17, h19⟩ := (show okX3 ad rby rnx 1 (f 1) from hT.1 1 (by decide))
  refine va_get (D := D) (cl := vwCl) (ci := 3) (v := .int x21) (C := RX3) (T := TX3) (N := 13) hx hb hts in_X3_refuse_X3 hown hK hP 1 (wl_at (by decide) e24) rfl 10 (by decide) (hts (.fieldLink RX3 67 "EightReasons$Reader" "kind" "I") (List.mem_of_getElem? (i := 1) rfl)) (fun _ h9 => h9) rfl dX3_refuse_2 ?_
  refine lv_bipush (v := 17) hx hb dX3_refuse_5 (by decide) ?_
  have ttl_17 := tl_17
  refine lv_icmp_ne (tgt := 14) hx hb dX3_refuse_7 (by decide) (fun c25 => ?_) (fun c25 => ?_)
  · have kc25 := c_ne c25
    refine lv_iconst (v := 2) hx hb dX3_refuse_14 (by decide) ?_
    have ttl_2 := tl_2
    exact j15 f H locs ls (2 : Int32) (by omega) hT hP hD hS (lv_sub hl [0] rfl)
  · have kc25 := c_eq c25
    refine lv_iconst (v := 1) hx hb dX3_refuse_10 (by decide) ?_
    refine lv_goto (tgt := 15) hx hb dX3_refuse_11 (by decide) ?_
    have ttl_1 := tl_1
    exact j15 f H locs ls (1 : Int32) (by omega) hT hP hD hS (lv_sub hl [0] rfl)
set_option maxHeartbeats 4000000 in
set_option maxRecDepth 100000 in
theorem s_X3_expect_0 (l : Launch) (B0 : Nat) (adK adV : Nat → Nat) (D : va_G) (cy : Nat → ClassId) (ad : Nat → Nat) (fr0 : Nat → va_E) (tx : Int32) (rby : Int32) (rnx : Int32) (f : Nat → va_E) (hT : TYx ad cy fr0 tx rby rnx f) (p1 : Int32) (hp1 : 1 ≤ p1.toInt ∧ p1.toInt ≤ 60) (sz : Nat) : TtV l yX3_expect wsX3_expect 5 127 [.ref (ad 1), .int p1] B0 adK adV D cy ad f sz (fun (g : Nat → va_E) => True ∧ (∃ (rnx' : Int32), TYx ad cy fr0 tx rby rnx' g)) := by
  refine TtV.of (cc := cX3_expect) (maxL := 2) (own := RX3) (by decide) rfl (Nat.le_of_ble_eq_true rfl) rfl ?_
  intro p e s m below meth c A ls hx hb hr hml hts hown hlk hK hE hP hD hS hA hAB hl
  have hl : lv_has ls 2 [(0, .ref (ad 1)), (1, .int p1)] := hl
  refine st0 (fun H locs hP hS => ?_) hP hS
  refine lv_aload_n hx hb dX3_expect_0 rfl (lv_at hl 0 rfl) ?_
  obtain ⟨x1, x2, t4, x6, x8, x9, x10, y11, e12, h3, h5, h7⟩ := (show okX3 ad rby rnx 1 (f 1) from hT.1 1 (by decide))
  refine va_get (D := D) (cl := vwCl) (ci := 3) (v := .int x1) (C := RX3) (T := TX3) (N := 13) hx hb hts in_X3_expect_X3 hown hK hP 1 (wl_at (by decide) e12) rfl 0 (by decide) (hts (.fieldLink RX3 55 "EightReasons$Reader" "fault" "I") (List.mem_of_getElem? (i := 1) rfl)) (fun _ h9 => h9) rfl dX3_expect_1 ?_
  have ttl_0 := tl_0
  refine lv_if_eq (tgt := 8) hx hb dX3_expect_4 (by decide) (fun c13 => ?_) (fun c13 => ?_)
  · have kc13 := c_eq c13
    refine lv_aload_n hx hb dX3_expect_8 rfl (lv_at hl 0 rfl) ?_
    refine va_get (D := D) (cl := vwCl) (ci := 3) (v := .int x9) (C := RX3) (T := TX3) (N := 13) hx hb hts in_X3_expect_X3 hown hK hP 1 (wl_at (by decide) e12) rfl 10 (by decide) (hts (.fieldLink RX3 67 "EightReasons$Reader" "kind" "I") (List.mem_of_getElem? (i := 2) rfl)) (fun _ h9 => h9) rfl dX3_expect_9 ?_
    refine lv_iload_n hx hb dX3_expect_12 rfl (lv_at hl 1 rfl) ?_
    refine lv_icmp_ne (tgt := 23) hx hb dX3_expect_13 (by decide) (fun c14 => ?_) (fun c14 => ?_)
    · have kc14 := c_ne c14
      refine lv_aload_n hx hb dX3_expect_23 rfl (lv_at hl 0 rfl) ?_
      refine tVV (As := []) (rest := []) (i := 1) ⟨hx, hb, hml, hown, hts⟩ hK hE hP hD hS hA hAB (s_X3_refuse_0 l B0 adK adV D cy ad fr0 tx rby rnx f hT _) (cwV 0 hts gX3_expect_X3_refuse rfl rfl rfl (by decide +kernel) ⟨Nat.le_of_ble_eq_true rfl, Nat.le_of_ble_eq_true rfl⟩) (by decide) 3 e12 rfl rfl hl.1 rfl (Nat.le_of_ble_eq_true rfl) dX3_expect_24 ⟨Nat.le_of_ble_eq_true rfl, Nat.le_of_ble_eq_true rfl⟩ (fun f H locs hw hP hD hS => ?_)
      obtain ⟨hrs, hT⟩ := hw
      exact tV hx hb hr hlk hP hS ⟨trivial, ⟨rnx, hT⟩⟩ dX3_expect_27
    · have kc14 := c_eq c14
      refine lv_aload_n hx hb dX3_expect_16 rfl (lv_at hl 0 rfl) ?_
      refine tVV (As := []) (rest := []) (i := 1) ⟨hx, hb, hml, hown, hts⟩ hK hE hP hD hS hA hAB (s_X3_advance_0 l B0 adK adV D cy ad fr0 tx rby rnx f hT _) (cwV 0 hts gX3_expect_X3_advance rfl rfl rfl (by decide +kernel) ⟨Nat.le_of_ble_eq_true rfl, Nat.le_of_ble_eq_true rfl⟩) (by decide) 3 e12 rfl rfl hl.1 rfl (Nat.le_of_ble_eq_true rfl) dX3_expect_17 ⟨Nat.le_of_ble_eq_true rfl, Nat.le_of_ble_eq_true rfl⟩ (fun f H locs hw hP hD hS => ?_)
      obtain ⟨hrs, x15, hT⟩ := hw
      refine lv_goto (tgt := 27) hx hb dX3_expect_20 (by decide) ?_
      exact tV hx hb hr hlk hP hS ⟨trivial, ⟨x15, hT⟩⟩ dX3_expect_27
  · have kc13 := c_ne c13
    exact tV hx hb hr hlk hP hS ⟨trivial, ⟨rnx, hT⟩⟩ dX3_expect_7
set_option maxHeartbeats 4000000 in
set_option maxRecDepth 100000 in
theorem s_X8_has_0 (l : Launch) (B0 : Nat) (adK adV : Nat → Nat) (D : va_G) (cy : Nat → ClassId) (ad : Nat → Nat) (f : Nat → va_E) (p0 : Int32) (p1 : Int32) (sz : Nat) : TtI l yX8_has wsX8_has 0 0 [.int p0, .int p1] B0 adK adV D cy ad f sz (fun (r : Int32) (g : Nat → va_E) => ((r = 1) ∨ (r = 0)) ∧ (f = g)) := by
  refine TtI.of (cc := cX8_has) (maxL := 2) (ty := .boolean) (own := RX8) (by decide) rfl (Nat.le_of_ble_eq_true rfl) rfl ?_
  intro p e s m below meth c A ls hx hb hr hml hts hown hlk hK hE hP hD hS hA hAB hl
  have hl : lv_has ls 2 [(0, .int p0), (1, .int p1)] := hl
  refine st0 (fun H locs hP hS => ?_) hP hS
  refine lv_iload_n hx hb dX8_has_0 rfl (lv_at hl 0 rfl) ?_
  refine lv_iload_n hx hb dX8_has_1 rfl (lv_at hl 1 rfl) ?_
  refine lv_ishr hx hb dX8_has_2 ?_
  refine lv_topi (fun x1 ex1 => ?_)
  refine lv_iconst (v := 1) hx hb dX8_has_3 (by decide) ?_
  have ttl_1 := tl_1
  refine lv_iand hx hb dX8_has_4 ?_
  refine lv_topi (fun x2 ex2 => ?_)
  have hx2 := r_andr ex2 (by omega)
  have ttl_0 := tl_0
  refine lv_if_eq (tgt := 12) hx hb dX8_has_5 (by decide) (fun c3 => ?_) (fun c3 => ?_)
  · have kc3 := c_eq c3
    refine lv_iconst (v := 0) hx hb dX8_has_12 (by decide) ?_
    exact tI hx hb hr hlk rfl hP hS ⟨(Or.inr rfl), rfl⟩ dX8_has_13
  · have kc3 := c_ne c3
    refine lv_iconst (v := 1) hx hb dX8_has_8 (by decide) ?_
    refine lv_goto (tgt := 13) hx hb dX8_has_9 (by decide) ?_
    exact tI hx hb hr hlk rfl hP hS ⟨(Or.inl rfl), rfl⟩ dX8_has_13
set_option maxHeartbeats 4000000 in
set_option maxRecDepth 100000 in
theorem s_X3_isFirst_0 (l : Launch) (B0 : Nat) (adK adV : Nat → Nat) (D : va_G) (cy : Nat → ClassId) (ad : Nat → Nat) (fr0 : Nat → va_E) (tx : Int32) (rby : Int32) (rnx : Int32) (f : Nat → va_E) (hT : TYx ad cy fr0 tx rby rnx f) (sz : Nat) : TtI l yX3_isFirst wsX3_isFirst 1 21 [.ref (ad 1)] B0 adK adV D cy ad f sz (fun (r : Int32) (g : Nat → va_E) => ((r = 1) ∨ (r = 0)) ∧ (TYx ad cy fr0 tx rby rnx g)) := by
  refine TtI.of (cc := cX3_isFirst) (maxL := 2) (ty := .boolean) (own := RX3) (by decide) rfl (Nat.le_of_ble_eq_true rfl) rfl ?_
  intro p e s m below meth c A ls hx hb hr hml hts hown hlk hK hE hP hD hS hA hAB hl
  have hl : lv_has ls 2 [(0, .ref (ad 1))] := hl
  refine st0 (fun H locs hP hS => ?_) hP hS
  have j19 : ∀ (f : Nat → va_E) (H : Heap) (locs : List Loc) (ls : Array Slot) (v19_s0 : Int32), (0 ≤ v19_s0.toInt ∧ v19_s0.toInt ≤ 1) → (TYx ad cy fr0 tx rby rnx f) → (va_P D vwCl (wl ad f) H) → (va_D A (wl ad f)) → (va_S A s.heap H locs) → (lv_has ls 2 [(0, .ref (ad 1))]) → W p l e (rmO 1 21 0 0) s m ([.ref (ad 1)] : List Value).toArray below meth c H locs 0 0 (MQ below (va_Qi (fun (r : Int32) (g : Nat → va_E) => ((r = 1) ∨ (r = 0)) ∧ (TYx ad cy fr0 tx rby rnx g)) (fun g t => PstT D ad g t) A) ([.ref (ad 1)] : List Value).toArray s 0 0 A) (F0 m 19 ls [.int v19_s0]) := by
    intro f H locs ls v19_s0 hv19_s0 hT hP hD hS hl
    refine lv_istore_n (lv' := [(1, .int v19_s0), (0, .ref (ad 1))]) hx hb dX3_isFirst_19 rfl hl (by decide) rfl (fun ls hl => ?_)
    refine lv_aload_n hx hb dX3_isFirst_20 rfl (lv_at hl 1 rfl) ?_
    refine lv_dup hx hb dX3_isFirst_21 rfl ?_
    obtain ⟨x1, x2, t4, x6, x8, x9, x10, y11, e12, h3, h5, h7⟩ := (show okX3 ad rby rnx 1 (f 1) from hT.1 1 (by decide))
    refine va_get (D := D) (cl := vwCl) (ci := 3) (v := .int x6) (C := RX3) (T := TX3) (N := 13) hx hb hts in_X3_isFirst_X3 hown hK hP 1 (wl_at (by decide) e12) rfl 7 (by decide) (hts (.fieldLink RX3 58 "EightReasons$Reader" "once" "I") (List.mem_of_getElem? (i := 1) rfl)) (fun _ h9 => h9) rfl dX3_isFirst_22 ?_
    refine lv_iconst (v := 1) hx hb dX3_isFirst_25 (by decide) ?_
    refine lv_aload_n hx hb dX3_isFirst_26 rfl (lv_at hl 1 rfl) ?_
    refine va_get (D := D) (cl := vwCl) (ci := 3) (v := .int x9) (C := RX3) (T := TX3) (N := 13) hx hb hts in_X3_isFirst_X3 hown hK hP 1 (wl_at (by decide) e12) rfl 10 (by decide) (hts (.fieldLink RX3 67 "EightReasons$Reader" "kind" "I") (List.mem_of_getElem? (i := 2) rfl)) (fun _ h9 => h9) rfl dX3_isFirst_27 ?_
    refine lv_ishl hx hb dX3_isFirst_30 ?_
    refine lv_topi (fun x13 ex13 => ?_)
    refine lv_ior hx hb dX3_isFirst_31 ?_
    refine lv_topi (fun x14 ex14 => ?_)
    refine va_put (D := D) (cl := vwCl) (ci := 3) (v := .int x14) (ty := tyX3 7) (C := RX3) (T := TX3) (N := 13) hx hb hts in_X3_isFirst_X3 tyX3 tyX3_ok nmX3 hown hK hP hD hS 1 (wl_at (by decide) e12) rfl 7 (by decide) (hts (.fieldLink RX3 58 "EightReasons$Reader" "once" "I") (List.mem_of_getElem? (i := 1) rfl)) (fun _ h9 => h9) rfl (tyX3_ok 7 (by decide)) rfl rfl (Nat.le_of_ble_eq_true rfl) dX3_isFirst_32 (fun H locs hP hD hS => ?_)
    obtain ⟨f, hT, hP, hD, e15, hj16⟩ := stU (by decide) (TYx.up hT (by decide) (show OKx ad cy tx rby rnx 1 _ from (show okX3 ad rby rnx 1 _ from ⟨x1, x2, t4, x14, x8, x9, x10, y11, rfl, by omega, h5, by omega⟩))) hP hD
    refine lv_iload_n hx hb dX3_isFirst_35 rfl (lv_at hl 0 rfl) ?_
    exact tI hx hb hr hlk (nar01 (by omega)) hP hS ⟨(i01 (by omega)), hT⟩ dX3_isFirst_36
  refine lv_aload_n hx hb dX3_isFirst_0 rfl (lv_at hl 0 rfl) ?_
  obtain ⟨x17, x18, t20, x22, x24, x25, x26, y27, e28, h19, h21, h23⟩ := (show okX3 ad rby rnx 1 (f 1) from hT.1 1 (by decide))
  refine va_get (D := D) (cl := vwCl) (ci := 3) (v := .int x22) (C := RX3) (T := TX3) (N := 13) hx hb hts in_X3_isFirst_X3 hown hK hP 1 (wl_at (by decide) e28) rfl 7 (by decide) (hts (.fieldLink RX3 58 "EightReasons$Reader" "once" "I") (List.mem_of_getElem? (i := 1) rfl)) (fun _ h9 => h9) rfl dX3_isFirst_1 ?_
  refine lv_aload_n hx hb dX3_isFirst_4 rfl (lv_at hl 0 rfl) ?_
  refine va_get (D := D) (cl := vwCl) (ci := 3) (v := .int x25) (C := RX3) (T := TX3) (N := 13) hx hb hts in_X3_isFirst_X3 hown hK hP 1 (wl_at (by decide) e28) rfl 10 (by decide) (hts (.fieldLink RX3 67 "EightReasons$Reader" "kind" "I") (List.mem_of_getElem? (i := 2) rfl)) (fun _ h9 => h9) rfl dX3_isFirst_5 ?_
  refine tNI (As := [.int x22, .int x25]) (rest := []) (host := RX8) ⟨hx, hb, hml, hown, hts⟩ hK hE hP hD hS hA hAB (s_X8_has_0 l B0 adK adV D cy ad f x22 x25 _) ⟨va_cnB 2 hts gX3_isFirst_X8_has_n145 rfl rfl rfl (hE.2.1 _ (List.mem_of_getElem? (i := 9) rfl)) (hts (.initialized RX8) (List.mem_of_getElem? (i := 4) rfl)) (by decide +kernel) ⟨Nat.le_of_ble_eq_true rfl, Nat.le_of_ble_eq_true rfl⟩, (hts (.static yX8_has) (List.mem_of_getElem? (i := 3) rfl)), trivial⟩ rfl hl.1 rfl (Nat.le_of_ble_eq_true rfl) dX3_isFirst_8 ⟨Nat.le_of_ble_eq_true rfl, Nat.le_of_ble_eq_true rfl⟩ (fun r g H locs hw hP hD hS => ?_)
  obtain ⟨hrs, rfl⟩ := hw
  obtain ⟨x29, rfl⟩ : ∃ q, q = r := ⟨_, rfl⟩
  rcases hrs with rfl | rfl
  · refine lv_if_ne (tgt := 18) hx hb dX3_isFirst_11 (by decide) (fun _ => ?_) (fun c => absurd c (by decide))
    refine lv_iconst (v := 0) hx hb dX3_isFirst_18 (by decide) ?_
    have ttl_0 := tl_0
    exact j19 f H locs ls (0 : Int32) (by omega) hT hP hD hS (lv_sub hl [0] rfl)
  · refine lv_if_ne (tgt := 18) hx hb dX3_isFirst_11 (by decide) (fun c => absurd (by decide) c) (fun _ => ?_)
    refine lv_iconst (v := 1) hx hb dX3_isFirst_14 (by decide) ?_
    refine lv_goto (tgt := 19) hx hb dX3_isFirst_15 (by decide) ?_
    have ttl_1 := tl_1
    exact j19 f H locs ls (1 : Int32) (by omega) hT hP hD hS (lv_sub hl [0] rfl)
set_option maxHeartbeats 4000000 in
set_option maxRecDepth 100000 in
theorem s_X3_find_0 (l : Launch) (B0 : Nat) (adK adV : Nat → Nat) (D : va_G) (cy : Nat → ClassId) (ad : Nat → Nat) (fr0 : Nat → va_E) (tx : Int32) (rby : Int32) (rnx : Int32) (f : Nat → va_E) (hT : TYx ad cy fr0 tx rby rnx f) (sz : Nat) : TtI l yX3_find wsX3_find 0 0 [.ref (ad 1)] B0 adK adV D cy ad f sz (fun (r : Int32) (g : Nat → va_E) => (-1 ≤ r.toInt ∧ r.toInt ≤ 9) ∧ (f = g)) := by
  refine TtI.of (cc := cX3_find) (maxL := 2) (ty := .int) (own := RX3) (by decide) rfl (Nat.le_of_ble_eq_true rfl) rfl ?_
  intro p e s m below meth c A ls hx hb hr hml hts hown hlk hK hE hP hD hS hA hAB hl
  have hl : lv_has ls 2 [(0, .ref (ad 1))] := hl
  refine st0 (fun H locs hP hS => ?_) hP hS
  have j2 : ∀ (N : Nat) (H : Heap) (locs : List Loc) (ls : Array Slot) (v2_l1 : Int32), (11 - v2_l1.toInt ≤ (N : Int)) → (0 ≤ v2_l1.toInt ∧ v2_l1.toInt ≤ 10) → (va_P D vwCl (wl ad f) H) → (va_D A (wl ad f)) → (va_S A s.heap H locs) → (lv_has ls 2 [(1, .int v2_l1), (0, .ref (ad 1))]) → W p l e (rmO 0 0 0 0) s m ([.ref (ad 1)] : List Value).toArray below meth c H locs 0 0 (MQ below (va_Qi (fun (r : Int32) (g : Nat → va_E) => (-1 ≤ r.toInt ∧ r.toInt ≤ 9) ∧ (f = g)) (fun g t => PstT D ad g t) A) ([.ref (ad 1)] : List Value).toArray s 0 0 A) (F0 m 2 ls []) := by
    intro N
    induction N with
    | zero => intro H locs ls v2_l1 hN hv2_l1 hP hD hS hl; exact absurd hN (by omega)
    | succ N ih2 =>
      intro H locs ls v2_l1 hN hv2_l1 hP hD hS hl
      refine lv_iload_n hx hb dX3_find_2 rfl (lv_at hl 0 rfl) ?_
      refine lv_aload_n hx hb dX3_find_3 rfl (lv_at hl 1 rfl) ?_
      obtain ⟨x1, x2, t4, x6, x8, x9, x10, y11, e12, h3, h5, h7⟩ := (show okX3 ad rby rnx 1 (f 1) from hT.1 1 (by decide))
      refine va_get (D := D) (cl := vwCl) (ci := 3) (v := .ref (ad t4)) (C := RX3) (T := TX3) (N := 13) hx hb hts in_X3_find_X3 hown hK hP 1 (wl_at (by decide) e12) rfl 4 (by decide) (hts (.fieldLink RX3 22 "EightReasons$Reader" "suit" "LEightReasons$Suit;") (List.mem_of_getElem? (i := 1) rfl)) (fun _ h9 => h9) rfl dX3_find_4 ?_
      obtain ⟨x13, x15, x16, x18, x19, e20, h14, h17⟩ := (ty_suit hT h5)
      refine va_get (D := D) (cl := vwCl) (ci := 5) (v := .int x13) (C := RX5) (T := TX5) (N := 12) hx hb hts in_X3_find_X5 hown hK hP t4 (wl_at (x_lt (x_suit0 h5)) e20) rfl 0 (by decide) (hts (.fieldLink RX3 149 "EightReasons$Suit" "points" "I") (List.mem_of_getElem? (i := 2) rfl)) (fun _ h9 => h9) rfl dX3_find_7 ?_
      refine lv_icmp_ge (tgt := 35) hx hb dX3_find_10 (by decide) (fun c21 => ?_) (fun c21 => ?_)
      · have kc21 := c_le c21
        refine lv_iconst (v := (-1)) hx hb dX3_find_35 (by decide) ?_
        have ttl_m1 := tl_m1
        exact tI hx hb hr hlk rfl hP hS ⟨(by omega), rfl⟩ dX3_find_36
      · have kc21 := c_nle c21
        refine lv_aload_n hx hb dX3_find_13 rfl (lv_at hl 1 rfl) ?_
        refine va_get (D := D) (cl := vwCl) (ci := 3) (v := .ref (ad 3)) (C := RX3) (T := TX3) (N := 13) hx hb hts in_X3_find_X3 hown hK hP 1 (wl_at (by decide) e12) rfl 5 (by decide) (hts (.fieldLink RX3 26 "EightReasons$Reader" "names" "[J") (List.mem_of_getElem? (i := 3) rfl)) (fun _ h9 => h9) rfl dX3_find_14 ?_
        refine lv_iload_n hx hb dX3_find_17 rfl (lv_at hl 0 rfl) ?_
        obtain ⟨g23, e22⟩ := (show okJ cy 10 (f 3) from hT.1 3 (by decide))
        refine va_lald hx hb hK hP 3 2 (wl_at (by decide) e22) rfl (vp_in_iff.mpr ⟨by omega, by omega⟩) dX3_find_18 ?_
        refine lv_topl (fun y24 _ => ?_)
        refine lv_aload_n hx hb dX3_find_19 rfl (lv_at hl 1 rfl) ?_
        refine va_get (D := D) (cl := vwCl) (ci := 3) (v := .long y11) (C := RX3) (T := TX3) (N := 13) hx hb hts in_X3_find_X3 hown hK hP 1 (wl_at (by decide) e12) rfl 12 (by decide) (hts (.fieldLink RX3 98 "EightReasons$Reader" "name" "J") (List.mem_of_getElem? (i := 4) rfl)) (fun _ h9 => h9) rfl dX3_find_20 ?_
        refine lvcmp hx hb dX3_find_23 (fun x25 hx25 => ?_)
        have ttl_0 := tl_0
        refine lv_if_ne (tgt := 29) hx hb dX3_find_24 (by decide) (fun c26 => ?_) (fun c26 => ?_)
        · have kc26 := c_ne c26
          obtain ⟨x27, ex27⟩ : ∃ q : Int32, q = v2_l1 + Int32.ofInt (1) := ⟨_, rfl⟩
          refine lv_iinc (v := x27) (lv' := [(1, .int x27), (0, .ref (ad 1))]) hx hb dX3_find_29 hl (k := 0) rfl ex27.symm (by decide) rfl (fun ls hl => ?_)
          have hx27 := r_inc ex27 (by decide) (by omega) (by omega)
          refine lv_goto (tgt := 2) hx hb dX3_find_32 (by decide) ?_
          exact ih2 H locs ls x27 (by omega) (by omega) hP hD hS (lv_sub hl [0, 1] rfl)
        · have kc26 := c_eq c26
          refine lv_iload_n hx hb dX3_find_27 rfl (lv_at hl 0 rfl) ?_
          exact tI hx hb hr hlk rfl hP hS ⟨(by omega), rfl⟩ dX3_find_28
  refine lv_iconst (v := 0) hx hb dX3_find_0 (by decide) ?_
  refine lv_istore_n (lv' := [(1, .int 0), (0, .ref (ad 1))]) hx hb dX3_find_1 rfl hl (by decide) rfl (fun ls hl => ?_)
  have ttl_0 := tl_0
  exact j2 (Int.toNat (11 - (0 : Int32).toInt)) H locs ls (0 : Int32) (by omega) (by omega) hP hD hS (lv_sub hl [0, 1] rfl)
set_option maxHeartbeats 4000000 in
set_option maxRecDepth 100000 in
theorem s_X3_readNewName_0 (l : Launch) (B0 : Nat) (adK adV : Nat → Nat) (D : va_G) (cy : Nat → ClassId) (ad : Nat → Nat) (fr0 : Nat → va_E) (tx : Int32) (rby : Int32) (rnx : Int32) (f : Nat → va_E) (hT : TYx ad cy fr0 tx rby rnx f) (sz : Nat) : TtV l yX3_readNewName wsX3_readNewName 5 127 [.ref (ad 1)] B0 adK adV D cy ad f sz (fun (g : Nat → va_E) => True ∧ (∃ (rnx' : Int32), TYx ad cy fr0 tx rby rnx' g)) := by
  refine TtV.of (cc := cX3_readNewName) (maxL := 1) (own := RX3) (by decide) rfl (Nat.le_of_ble_eq_true rfl) rfl ?_
  intro p e s m below meth c A ls hx hb hr hml hts hown hlk hK hE hP hD hS hA hAB hl
  have hl : lv_has ls 1 [(0, .ref (ad 1))] := hl
  refine st0 (fun H locs hP hS => ?_) hP hS
  refine lv_aload_n hx hb dX3_readNewName_0 rfl (lv_at hl 0 rfl) ?_
  obtain ⟨x1, x2, t4, x6, x8, x9, x10, y11, e12, h3, h5, h7⟩ := (show okX3 ad rby rnx 1 (f 1) from hT.1 1 (by decide))
  refine va_get (D := D) (cl := vwCl) (ci := 3) (v := .int x9) (C := RX3) (T := TX3) (N := 13) hx hb hts in_X3_readNewName_X3 hown hK hP 1 (wl_at (by decide) e12) rfl 10 (by decide) (hts (.fieldLink RX3 67 "EightReasons$Reader" "kind" "I") (List.mem_of_getElem? (i := 1) rfl)) (fun _ h9 => h9) rfl dX3_readNewName_1 ?_
  refine lv_bipush (v := 14) hx hb dX3_readNewName_4 (by decide) ?_
  have ttl_14 := tl_14
  refine lv_icmp_eq (tgt := 16) hx hb dX3_readNewName_6 (by decide) (fun c13 => ?_) (fun c13 => ?_)
  · have kc13 := c_eq c13
    refine lv_aload_n hx hb dX3_readNewName_16 rfl (lv_at hl 0 rfl) ?_
    refine tVI (As := []) (rest := []) (i := 1) ⟨hx, hb, hml, hown, hts⟩ hK hE hP hD hS hA hAB (s_X3_find_0 l B0 adK adV D cy ad fr0 tx rby rnx f hT _) (cwV 0 hts gX3_readNewName_X3_find rfl rfl rfl (by decide +kernel) ⟨Nat.le_of_ble_eq_true rfl, Nat.le_of_ble_eq_true rfl⟩) (by decide) 3 e12 rfl rfl hl.1 rfl (Nat.le_of_ble_eq_true rfl) dX3_readNewName_17 ⟨Nat.le_of_ble_eq_true rfl, Nat.le_of_ble_eq_true rfl⟩ (fun r g H locs hw hP hD hS => ?_)
    obtain ⟨hrs, rfl⟩ := hw
    obtain ⟨x14, rfl⟩ : ∃ q, q = r := ⟨_, rfl⟩
    have h15 := hrs
    refine lv_iconst (v := (-1)) hx hb dX3_readNewName_20 (by decide) ?_
    have ttl_m1 := tl_m1
    refine lv_icmp_eq (tgt := 32) hx hb dX3_readNewName_21 (by decide) (fun c16 => ?_) (fun c16 => ?_)
    · have kc16 := c_eq c16
      refine lv_aload_n hx hb dX3_readNewName_32 rfl (lv_at hl 0 rfl) ?_
      refine va_get (D := D) (cl := vwCl) (ci := 3) (v := .ref (ad t4)) (C := RX3) (T := TX3) (N := 13) hx hb hts in_X3_readNewName_X3 hown hK hP 1 (wl_at (by decide) e12) rfl 4 (by decide) (hts (.fieldLink RX3 22 "EightReasons$Reader" "suit" "LEightReasons$Suit;") (List.mem_of_getElem? (i := 2) rfl)) (fun _ h9 => h9) rfl dX3_readNewName_33 ?_
      obtain ⟨x17, x19, x20, x22, x23, e24, h18, h21⟩ := (ty_suit hT h5)
      refine va_get (D := D) (cl := vwCl) (ci := 5) (v := .int x17) (C := RX5) (T := TX5) (N := 12) hx hb hts in_X3_readNewName_X5 hown hK hP t4 (wl_at (x_lt (x_suit0 h5)) e24) rfl 0 (by decide) (hts (.fieldLink RX3 149 "EightReasons$Suit" "points" "I") (List.mem_of_getElem? (i := 3) rfl)) (fun _ h9 => h9) rfl dX3_readNewName_36 ?_
      refine lv_aload_n hx hb dX3_readNewName_39 rfl (lv_at hl 0 rfl) ?_
      refine va_get (D := D) (cl := vwCl) (ci := 3) (v := .ref (ad 3)) (C := RX3) (T := TX3) (N := 13) hx hb hts in_X3_readNewName_X3 hown hK hP 1 (wl_at (by decide) e12) rfl 5 (by decide) (hts (.fieldLink RX3 26 "EightReasons$Reader" "names" "[J") (List.mem_of_getElem? (i := 4) rfl)) (fun _ h9 => h9) rfl dX3_readNewName_40 ?_
      obtain ⟨g26, e25⟩ := (show okJ cy 10 (f 3) from hT.1 3 (by decide))
      refine va_alen hx hb hK hP 3 2 (wl_at (by decide) e25) rfl (v := 10) rfl dX3_readNewName_43 ?_
      have ttl_10 := tl_10
      refine lv_icmp_ge (tgt := 67) hx hb dX3_readNewName_44 (by decide) (fun c27 => ?_) (fun c27 => ?_)
      · have kc27 := c_le c27
        exact tV hx hb hr hlk hP hS ⟨trivial, ⟨rnx, hT⟩⟩ dX3_readNewName_67
      · have kc27 := c_nle c27
        refine lv_aload_n hx hb dX3_readNewName_47 rfl (lv_at hl 0 rfl) ?_
        refine va_get (D := D) (cl := vwCl) (ci := 3) (v := .ref (ad 3)) (C := RX3) (T := TX3) (N := 13) hx hb hts in_X3_readNewName_X3 hown hK hP 1 (wl_at (by decide) e12) rfl 5 (by decide) (hts (.fieldLink RX3 26 "EightReasons$Reader" "names" "[J") (List.mem_of_getElem? (i := 4) rfl)) (fun _ h9 => h9) rfl dX3_readNewName_48 ?_
        refine lv_aload_n hx hb dX3_readNewName_51 rfl (lv_at hl 0 rfl) ?_
        refine va_get (D := D) (cl := vwCl) (ci := 3) (v := .ref (ad t4)) (C := RX3) (T := TX3) (N := 13) hx hb hts in_X3_readNewName_X3 hown hK hP 1 (wl_at (by decide) e12) rfl 4 (by decide) (hts (.fieldLink RX3 22 "EightReasons$Reader" "suit" "LEightReasons$Suit;") (List.mem_of_getElem? (i := 2) rfl)) (fun _ h9 => h9) rfl dX3_readNewName_52 ?_
        refine va_get (D := D) (cl := vwCl) (ci := 5) (v := .int x17) (C := RX5) (T := TX5) (N := 12) hx hb hts in_X3_readNewName_X5 hown hK hP t4 (wl_at (x_lt (x_suit0 h5)) e24) rfl 0 (by decide) (hts (.fieldLink RX3 149 "EightReasons$Suit" "points" "I") (List.mem_of_getElem? (i := 3) rfl)) (fun _ h9 => h9) rfl dX3_readNewName_55 ?_
        refine lv_aload_n hx hb dX3_readNewName_58 rfl (lv_at hl 0 rfl) ?_
        refine va_get (D := D) (cl := vwCl) (ci := 3) (v := .long y11) (C := RX3) (T := TX3) (N := 13) hx hb hts in_X3_readNewName_X3 hown hK hP 1 (wl_at (by decide) e12) rfl 12 (by decide) (hts (.fieldLink RX3 98 "EightReasons$Reader" "name" "J") (List.mem_of_getElem? (i := 5) rfl)) (fun _ h9 => h9) rfl dX3_readNewName_59 ?_
        refine va_last hx hb hK hP hD hS 3 2 (wl_at (by decide) e25) rfl (vp_in_iff.mpr ⟨by omega, by omega⟩) dX3_readNewName_62 (fun H locs hP hD hS => ?_)
        obtain ⟨f, hT, hP, hD, e28, hj29⟩ := stU (by decide) (TYx.up hT (by decide) (show OKx ad cy tx rby rnx 3 _ from (show okJ cy 10 _ from ⟨_, rfl⟩))) hP hD
        have e30 := (hj29 1 (by decide)).trans e12
        refine lv_aload_n hx hb dX3_readNewName_63 rfl (lv_at hl 0 rfl) ?_
        refine tVV (As := []) (rest := []) (i := 1) ⟨hx, hb, hml, hown, hts⟩ hK hE hP hD hS hA hAB (s_X3_advance_0 l B0 adK adV D cy ad fr0 tx rby rnx f hT _) (cwV 0 hts gX3_readNewName_X3_advance rfl rfl rfl (by decide +kernel) ⟨Nat.le_of_ble_eq_true rfl, Nat.le_of_ble_eq_true rfl⟩) (by decide) 3 e30 rfl rfl hl.1 rfl (Nat.le_of_ble_eq_true rfl) dX3_readNewName_64 ⟨Nat.le_of_ble_eq_true rfl, Nat.le_of_ble_eq_true rfl⟩ (fun f H locs hw hP hD hS => ?_)
        obtain ⟨hrs, x31, hT⟩ := hw
        exact tV hx hb hr hlk hP hS ⟨trivial, ⟨x31, hT⟩⟩ dX3_readNewName_67
    · have kc16 := c_ne c16
      refine lv_aload_n hx hb dX3_readNewName_24 rfl (lv_at hl 0 rfl) ?_
      refine lv_iconst (v := 3) hx hb dX3_readNewName_25 (by decide) ?_
      have ttl_3 := tl_3
      refine tVV (As := [.int 3]) (rest := []) (i := 1) ⟨hx, hb, hml, hown, hts⟩ hK hE hP hD hS hA hAB (s_X3_blame_0 l B0 adK adV D cy ad fr0 tx rby rnx f hT (3 : Int32) (by omega) _) (cwV 1 hts gX3_readNewName_X3_blame rfl rfl rfl (by decide +kernel) ⟨Nat.le_of_ble_eq_true rfl, Nat.le_of_ble_eq_true rfl⟩) (by decide) 3 e12 rfl rfl hl.1 rfl (Nat.le_of_ble_eq_true rfl) dX3_readNewName_26 ⟨Nat.le_of_ble_eq_true rfl, Nat.le_of_ble_eq_true rfl⟩ (fun f H locs hw hP hD hS => ?_)
      obtain ⟨hrs, hT⟩ := hw
      refine lv_goto (tgt := 67) hx hb dX3_readNewName_29 (by decide) ?_
      exact tV hx hb hr hlk hP hS ⟨trivial, ⟨rnx, hT⟩⟩ dX3_readNewName_67
  · have kc13 := c_ne c13
    refine lv_aload_n hx hb dX3_readNewName_9 rfl (lv_at hl 0 rfl) ?_
    refine tVV (As := []) (rest := []) (i := 1) ⟨hx, hb, hml, hown, hts⟩ hK hE hP hD hS hA hAB (s_X3_refuse_0 l B0 adK adV D cy ad fr0 tx rby rnx f hT _) (cwV 0 hts gX3_readNewName_X3_refuse rfl rfl rfl (by decide +kernel) ⟨Nat.le_of_ble_eq_true rfl, Nat.le_of_ble_eq_true rfl⟩) (by decide) 3 e12 rfl rfl hl.1 rfl (Nat.le_of_ble_eq_true rfl) dX3_readNewName_10 ⟨Nat.le_of_ble_eq_true rfl, Nat.le_of_ble_eq_true rfl⟩ (fun f H locs hw hP hD hS => ?_)
    obtain ⟨hrs, hT⟩ := hw
    refine lv_goto (tgt := 67) hx hb dX3_readNewName_13 (by decide) ?_
    exact tV hx hb hr hlk hP hS ⟨trivial, ⟨rnx, hT⟩⟩ dX3_readNewName_67
set_option maxHeartbeats 4000000 in
set_option maxRecDepth 100000 in
theorem s_X3_readNumber_0 (l : Launch) (B0 : Nat) (adK adV : Nat → Nat) (D : va_G) (cy : Nat → ClassId) (ad : Nat → Nat) (fr0 : Nat → va_E) (tx : Int32) (rby : Int32) (rnx : Int32) (f : Nat → va_E) (hT : TYx ad cy fr0 tx rby rnx f) (p1 : Int32) (hp1 : 0 ≤ p1.toInt ∧ p1.toInt ≤ 1) (p2 : Int32) (hp2 : 1 ≤ p2.toInt ∧ p2.toInt ≤ 999) (sz : Nat) : TtI l yX3_readNumber wsX3_readNumber 5 127 [.ref (ad 1), .int p1, .int p2] B0 adK adV D cy ad f sz (fun (r : Int32) (g : Nat → va_E) => True ∧ (∃ (rnx' : Int32), TYx ad cy fr0 tx rby rnx' g)) := by
  refine TtI.of (cc := cX3_readNumber) (maxL := 4) (ty := .int) (own := RX3) (by decide) rfl (Nat.le_of_ble_eq_true rfl) rfl ?_
  intro p e s m below meth c A ls hx hb hr hml hts hown hlk hK hE hP hD hS hA hAB hl
  have hl : lv_has ls 4 [(0, .ref (ad 1)), (1, .int p1), (2, .int p2)] := hl
  refine st0 (fun H locs hP hS => ?_) hP hS
  have j31 : ∀ (f : Nat → va_E) (H : Heap) (locs : List Loc) (ls : Array Slot) (v31_l3 : Int32), (0 ≤ p1.toInt ∧ p1.toInt ≤ 1) → (1 ≤ p2.toInt ∧ p2.toInt ≤ 999) → (TYx ad cy fr0 tx rby rnx f) → (va_P D vwCl (wl ad f) H) → (va_D A (wl ad f)) → (va_S A s.heap H locs) → (lv_has ls 4 [(3, .int v31_l3), (0, .ref (ad 1)), (1, .int p1), (2, .int p2)]) → W p l e (rmO 5 127 0 0) s m ([.ref (ad 1), .int p1, .int p2] : List Value).toArray below meth c H locs 0 0 (MQ below (va_Qi (fun (r : Int32) (g : Nat → va_E) => True ∧ (∃ (rnx' : Int32), TYx ad cy fr0 tx rby rnx' g)) (fun g t => PstT D ad g t) A) ([.ref (ad 1), .int p1, .int p2] : List Value).toArray s 0 0 A) (F0 m 31 ls []) := by
    intro f H locs ls v31_l3 hv31_l1 hv31_l2 hT hP hD hS hl
    refine lv_aload_n hx hb dX3_readNumber_31 rfl (lv_at hl 1 rfl) ?_
    refine lv_iconst (v := 4) hx hb dX3_readNumber_32 (by decide) ?_
    have ttl_4 := tl_4
    obtain ⟨x1, x2, t4, x6, x8, x9, x10, y11, e12, h3, h5, h7⟩ := (show okX3 ad rby rnx 1 (f 1) from hT.1 1 (by decide))
    refine tVV (As := [.int 4]) (rest := []) (i := 1) ⟨hx, hb, hml, hown, hts⟩ hK hE hP hD hS hA hAB (s_X3_blame_0 l B0 adK adV D cy ad fr0 tx rby rnx f hT (4 : Int32) (by omega) _) (cwV 1 hts gX3_readNumber_X3_blame rfl rfl rfl (by decide +kernel) ⟨Nat.le_of_ble_eq_true rfl, Nat.le_of_ble_eq_true rfl⟩) (by decide) 3 e12 rfl rfl hl.1 rfl (Nat.le_of_ble_eq_true rfl) dX3_readNumber_33 ⟨Nat.le_of_ble_eq_true rfl, Nat.le_of_ble_eq_true rfl⟩ (fun f H locs hw hP hD hS => ?_)
    obtain ⟨hrs, hT⟩ := hw
    refine lv_goto (tgt := 43) hx hb dX3_readNumber_36 (by decide) ?_
    refine lv_iload_n hx hb dX3_readNumber_43 rfl (lv_at hl 0 rfl) ?_
    exact tI hx hb hr hlk rfl hP hS ⟨trivial, ⟨rnx, hT⟩⟩ dX3_readNumber_44
  refine lv_aload_n hx hb dX3_readNumber_0 rfl (lv_at hl 0 rfl) ?_
  obtain ⟨x13, x14, t16, x18, x20, x21, x22, y23, e24, h15, h17, h19⟩ := (show okX3 ad rby rnx 1 (f 1) from hT.1 1 (by decide))
  refine va_get (D := D) (cl := vwCl) (ci := 3) (v := .int x22) (C := RX3) (T := TX3) (N := 13) hx hb hts in_X3_readNumber_X3 hown hK hP 1 (wl_at (by decide) e24) rfl 11 (by decide) (hts (.fieldLink RX3 102 "EightReasons$Reader" "number" "I") (List.mem_of_getElem? (i := 1) rfl)) (fun _ h9 => h9) rfl dX3_readNumber_1 ?_
  refine lv_istore_n (lv' := [(3, .int x22), (0, .ref (ad 1)), (1, .int p1), (2, .int p2)]) hx hb dX3_readNumber_4 rfl hl (by decide) rfl (fun ls hl => ?_)
  refine lv_aload_n hx hb dX3_readNumber_5 rfl (lv_at hl 1 rfl) ?_
  refine va_get (D := D) (cl := vwCl) (ci := 3) (v := .int x21) (C := RX3) (T := TX3) (N := 13) hx hb hts in_X3_readNumber_X3 hown hK hP 1 (wl_at (by decide) e24) rfl 10 (by decide) (hts (.fieldLink RX3 67 "EightReasons$Reader" "kind" "I") (List.mem_of_getElem? (i := 2) rfl)) (fun _ h9 => h9) rfl dX3_readNumber_6 ?_
  refine lv_bipush (v := 15) hx hb dX3_readNumber_9 (by decide) ?_
  have ttl_15 := tl_15
  refine lv_icmp_eq (tgt := 21) hx hb dX3_readNumber_11 (by decide) (fun c25 => ?_) (fun c25 => ?_)
  · have kc25 := c_eq c25
    refine lv_iload_n hx hb dX3_readNumber_21 rfl (lv_at hl 0 rfl) ?_
    refine lv_iload_n hx hb dX3_readNumber_22 rfl (lv_at hl 2 rfl) ?_
    refine lv_icmp_lt (tgt := 31) hx hb dX3_readNumber_23 (by decide) (fun c26 => ?_) (fun c26 => ?_)
    · have kc26 := c_lt c26
      exact j31 f H locs ls x22 (by omega) (by omega) hT hP hD hS (lv_sub hl [0, 1, 2, 3] rfl)
    · have kc26 := c_nlt c26
      refine lv_iload_n hx hb dX3_readNumber_26 rfl (lv_at hl 0 rfl) ?_
      refine lv_iload_n hx hb dX3_readNumber_27 rfl (lv_at hl 3 rfl) ?_
      refine lv_icmp_le (tgt := 39) hx hb dX3_readNumber_28 (by decide) (fun c27 => ?_) (fun c27 => ?_)
      · have kc27 := c_le c27
        refine lv_aload_n hx hb dX3_readNumber_39 rfl (lv_at hl 1 rfl) ?_
        refine tVV (As := []) (rest := []) (i := 1) ⟨hx, hb, hml, hown, hts⟩ hK hE hP hD hS hA hAB (s_X3_advance_0 l B0 adK adV D cy ad fr0 tx rby rnx f hT _) (cwV 0 hts gX3_readNumber_X3_advance rfl rfl rfl (by decide +kernel) ⟨Nat.le_of_ble_eq_true rfl, Nat.le_of_ble_eq_true rfl⟩) (by decide) 3 e24 rfl rfl hl.1 rfl (Nat.le_of_ble_eq_true rfl) dX3_readNumber_40 ⟨Nat.le_of_ble_eq_true rfl, Nat.le_of_ble_eq_true rfl⟩ (fun f H locs hw hP hD hS => ?_)
        obtain ⟨hrs, x28, hT⟩ := hw
        refine lv_iload_n hx hb dX3_readNumber_43 rfl (lv_at hl 0 rfl) ?_
        exact tI hx hb hr hlk rfl hP hS ⟨trivial, ⟨x28, hT⟩⟩ dX3_readNumber_44
      · have kc27 := c_nle c27
        exact j31 f H locs ls x22 (by omega) (by omega) hT hP hD hS (lv_sub hl [0, 1, 2, 3] rfl)
  · have kc25 := c_ne c25
    refine lv_aload_n hx hb dX3_readNumber_14 rfl (lv_at hl 1 rfl) ?_
    refine tVV (As := []) (rest := []) (i := 1) ⟨hx, hb, hml, hown, hts⟩ hK hE hP hD hS hA hAB (s_X3_refuse_0 l B0 adK adV D cy ad fr0 tx rby rnx f hT _) (cwV 0 hts gX3_readNumber_X3_refuse rfl rfl rfl (by decide +kernel) ⟨Nat.le_of_ble_eq_true rfl, Nat.le_of_ble_eq_true rfl⟩) (by decide) 3 e24 rfl rfl hl.1 rfl (Nat.le_of_ble_eq_true rfl) dX3_readNumber_15 ⟨Nat.le_of_ble_eq_true rfl, Nat.le_of_ble_eq_true rfl⟩ (fun f H locs hw hP hD hS => ?_)
    obtain ⟨hrs, hT⟩ := hw
    refine lv_goto (tgt := 43) hx hb dX3_readNumber_18 (by decide) ?_
    refine lv_iload_n hx hb dX3_readNumber_43 rfl (lv_at hl 0 rfl) ?_
    exact tI hx hb hr hlk rfl hP hS ⟨trivial, ⟨rnx, hT⟩⟩ dX3_readNumber_44
set_option maxHeartbeats 4000000 in
set_option maxRecDepth 100000 in
theorem s_X5_addPoint_0 (l : Launch) (B0 : Nat) (adK adV : Nat → Nat) (D : va_G) (cy : Nat → ClassId) (ad : Nat → Nat) (fr0 : Nat → va_E) (tx : Int32) (rby : Int32) (rnx : Int32) (f : Nat → va_E) (hT : TYx ad cy fr0 tx rby rnx f) (q0 : Nat) (hq0 : isSuit q0) (p1 : Int32) (hp1 : 0 ≤ p1.toInt ∧ p1.toInt ≤ 1) (p2 : Int32) (sz : Nat) : TtV l yX5_addPoint wsX5_addPoint 0 0 [.ref (ad q0), .int p1, .int p2] B0 adK adV D cy ad f sz (fun (g : Nat → va_E) => True ∧ (TYx ad cy fr0 tx rby rnx g)) := by
  refine TtV.of (cc := cX5_addPoint) (maxL := 3) (own := RX5) (by decide) rfl (Nat.le_of_ble_eq_true rfl) rfl ?_
  intro p e s m below meth c A ls hx hb hr hml hts hown hlk hK hE hP hD hS hA hAB hl
  have hl : lv_has ls 3 [(0, .ref (ad q0)), (1, .int p1), (2, .int p2)] := hl
  refine st0 (fun H locs hP hS => ?_) hP hS
  refine lv_aload_n hx hb dX5_addPoint_0 rfl (lv_at hl 0 rfl) ?_
  obtain ⟨x1, x3, x4, x6, x7, e8, h2, h5⟩ := (ty_suit hT hq0)
  refine va_get (D := D) (cl := vwCl) (ci := 5) (v := .int x1) (C := RX5) (T := TX5) (N := 12) hx hb hts in_X5_addPoint_X5 hown hK hP q0 (wl_at (x_lt (x_suit0 hq0)) e8) rfl 0 (by decide) (hts (.fieldLink RX5 37 "EightReasons$Suit" "points" "I") (List.mem_of_getElem? (i := 1) rfl)) (fun _ h9 => h9) rfl dX5_addPoint_1 ?_
  refine lv_bipush (v := 10) hx hb dX5_addPoint_4 (by decide) ?_
  have ttl_10 := tl_10
  refine lv_icmp_lt (tgt := 10) hx hb dX5_addPoint_6 (by decide) (fun c9 => ?_) (fun c9 => ?_)
  · have kc9 := c_lt c9
    refine lv_iload_n hx hb dX5_addPoint_10 rfl (lv_at hl 1 rfl) ?_
    have ttl_0 := tl_0
    refine lv_if_eq (tgt := 29) hx hb dX5_addPoint_11 (by decide) (fun c10 => ?_) (fun c10 => ?_)
    · have kc10 := c_eq c10
      refine lv_aload_n hx hb dX5_addPoint_29 rfl (lv_at hl 0 rfl) ?_
      refine va_get (D := D) (cl := vwCl) (ci := 5) (v := .ref (ad (q0 + 1))) (C := RX5) (T := TX5) (N := 12) hx hb hts in_X5_addPoint_X5 hown hK hP q0 (wl_at (x_lt (x_suit0 hq0)) e8) rfl 5 (by decide) (hts (.fieldLink RX5 9 "EightReasons$Suit" "needs" "[I") (List.mem_of_getElem? (i := 3) rfl)) (fun _ h9 => h9) rfl dX5_addPoint_30 ?_
      refine lv_aload_n hx hb dX5_addPoint_33 rfl (lv_at hl 0 rfl) ?_
      refine va_get (D := D) (cl := vwCl) (ci := 5) (v := .int x1) (C := RX5) (T := TX5) (N := 12) hx hb hts in_X5_addPoint_X5 hown hK hP q0 (wl_at (x_lt (x_suit0 hq0)) e8) rfl 0 (by decide) (hts (.fieldLink RX5 37 "EightReasons$Suit" "points" "I") (List.mem_of_getElem? (i := 1) rfl)) (fun _ h9 => h9) rfl dX5_addPoint_34 ?_
      refine lv_iload_n hx hb dX5_addPoint_37 rfl (lv_at hl 2 rfl) ?_
      obtain ⟨g12, e11⟩ := (ty_suit1 hT hq0)
      refine va_iast hx hb hK hP hD hS (q0 + 1) 0 (wl_at (x_lt (x_suit hq0 (by decide))) e11) rfl (vp_in_iff.mpr ⟨by omega, by omega⟩) dX5_addPoint_38 (fun H locs hP hD hS => ?_)
      obtain ⟨f, hT, hP, hD, e13, hj14⟩ := stU (x_lt (x_suit hq0 (by decide))) (TYx.up hT (x_suit hq0 (by decide)) (ok_suit1 hq0 ⟨_, rfl⟩)) hP hD
      have e15 := (hj14 q0 (by omega)).trans e8
      refine lv_aload_n hx hb dX5_addPoint_39 rfl (lv_at hl 0 rfl) ?_
      refine va_get (D := D) (cl := vwCl) (ci := 5) (v := .ref (ad (q0 + 2))) (C := RX5) (T := TX5) (N := 12) hx hb hts in_X5_addPoint_X5 hown hK hP q0 (wl_at (x_lt (x_suit0 hq0)) e15) rfl 6 (by decide) (hts (.fieldLink RX5 15 "EightReasons$Suit" "into" "[I") (List.mem_of_getElem? (i := 4) rfl)) (fun _ h9 => h9) rfl dX5_addPoint_40 ?_
      refine lv_aload_n hx hb dX5_addPoint_43 rfl (lv_at hl 0 rfl) ?_
      refine va_get (D := D) (cl := vwCl) (ci := 5) (v := .int x1) (C := RX5) (T := TX5) (N := 12) hx hb hts in_X5_addPoint_X5 hown hK hP q0 (wl_at (x_lt (x_suit0 hq0)) e15) rfl 0 (by decide) (hts (.fieldLink RX5 37 "EightReasons$Suit" "points" "I") (List.mem_of_getElem? (i := 1) rfl)) (fun _ h9 => h9) rfl dX5_addPoint_44 ?_
      refine lv_iconst (v := 0) hx hb dX5_addPoint_47 (by decide) ?_
      obtain ⟨g17, e16⟩ := (ty_suit2 hT hq0)
      refine va_iast hx hb hK hP hD hS (q0 + 2) 0 (wl_at (x_lt (x_suit hq0 (by decide))) e16) rfl (vp_in_iff.mpr ⟨by omega, by omega⟩) dX5_addPoint_48 (fun H locs hP hD hS => ?_)
      obtain ⟨f, hT, hP, hD, e18, hj19⟩ := stU (x_lt (x_suit hq0 (by decide))) (TYx.up hT (x_suit hq0 (by decide)) (ok_suit2 hq0 ⟨_, rfl⟩)) hP hD
      have e20 := (hj19 q0 (by omega)).trans e15
      refine lv_aload_n hx hb dX5_addPoint_49 rfl (lv_at hl 0 rfl) ?_
      refine va_get (D := D) (cl := vwCl) (ci := 5) (v := .ref (ad (q0 + 3))) (C := RX5) (T := TX5) (N := 12) hx hb hts in_X5_addPoint_X5 hown hK hP q0 (wl_at (x_lt (x_suit0 hq0)) e20) rfl 7 (by decide) (hts (.fieldLink RX5 18 "EightReasons$Suit" "from" "[I") (List.mem_of_getElem? (i := 5) rfl)) (fun _ h9 => h9) rfl dX5_addPoint_50 ?_
      refine lv_aload_n hx hb dX5_addPoint_53 rfl (lv_at hl 0 rfl) ?_
      refine va_get (D := D) (cl := vwCl) (ci := 5) (v := .int x1) (C := RX5) (T := TX5) (N := 12) hx hb hts in_X5_addPoint_X5 hown hK hP q0 (wl_at (x_lt (x_suit0 hq0)) e20) rfl 0 (by decide) (hts (.fieldLink RX5 37 "EightReasons$Suit" "points" "I") (List.mem_of_getElem? (i := 1) rfl)) (fun _ h9 => h9) rfl dX5_addPoint_54 ?_
      refine lv_iconst (v := 0) hx hb dX5_addPoint_57 (by decide) ?_
      obtain ⟨g22, e21⟩ := (ty_suit3 hT hq0)
      refine va_iast hx hb hK hP hD hS (q0 + 3) 0 (wl_at (x_lt (x_suit hq0 (by decide))) e21) rfl (vp_in_iff.mpr ⟨by omega, by omega⟩) dX5_addPoint_58 (fun H locs hP hD hS => ?_)
      obtain ⟨f, hT, hP, hD, e23, hj24⟩ := stU (x_lt (x_suit hq0 (by decide))) (TYx.up hT (x_suit hq0 (by decide)) (ok_suit3 hq0 ⟨_, rfl⟩)) hP hD
      have e25 := (hj24 q0 (by omega)).trans e20
      refine lv_aload_n hx hb dX5_addPoint_59 rfl (lv_at hl 0 rfl) ?_
      refine lv_dup hx hb dX5_addPoint_60 rfl ?_
      refine va_get (D := D) (cl := vwCl) (ci := 5) (v := .int x1) (C := RX5) (T := TX5) (N := 12) hx hb hts in_X5_addPoint_X5 hown hK hP q0 (wl_at (x_lt (x_suit0 hq0)) e25) rfl 0 (by decide) (hts (.fieldLink RX5 37 "EightReasons$Suit" "points" "I") (List.mem_of_getElem? (i := 1) rfl)) (fun _ h9 => h9) rfl dX5_addPoint_61 ?_
      refine lv_iconst (v := 1) hx hb dX5_addPoint_64 (by decide) ?_
      have ttl_1 := tl_1
      refine lv_iadd hx hb dX5_addPoint_65 ?_
      refine lv_topi (fun x26 ex26 => ?_)
      have hx26 := r_add ex26 (by omega) (by omega)
      refine va_put (D := D) (cl := vwCl) (ci := 5) (v := .int x26) (ty := tyX5 0) (C := RX5) (T := TX5) (N := 12) hx hb hts in_X5_addPoint_X5 tyX5 tyX5_ok nmX5 hown hK hP hD hS q0 (wl_at (x_lt (x_suit0 hq0)) e25) rfl 0 (by decide) (hts (.fieldLink RX5 37 "EightReasons$Suit" "points" "I") (List.mem_of_getElem? (i := 1) rfl)) (fun _ h9 => h9) rfl (tyX5_ok 0 (by decide)) rfl rfl (Nat.le_of_ble_eq_true rfl) dX5_addPoint_66 (fun H locs hP hD hS => ?_)
      obtain ⟨f, hT, hP, hD, e27, hj28⟩ := stU (x_lt (x_suit0 hq0)) (TYx.up hT (x_suit0 hq0) (ok_suit hq0 ⟨x26, x3, x4, x6, x7, rfl, by omega, by omega⟩)) hP hD
      exact tV hx hb hr hlk hP hS ⟨trivial, hT⟩ dX5_addPoint_69
    · have kc10 := c_ne c10
      refine lv_aload_n hx hb dX5_addPoint_14 rfl (lv_at hl 0 rfl) ?_
      refine lv_dup hx hb dX5_addPoint_15 rfl ?_
      refine va_get (D := D) (cl := vwCl) (ci := 5) (v := .int x3) (C := RX5) (T := TX5) (N := 12) hx hb hts in_X5_addPoint_X5 hown hK hP q0 (wl_at (x_lt (x_suit0 hq0)) e8) rfl 1 (by decide) (hts (.fieldLink RX5 41 "EightReasons$Suit" "facts" "I") (List.mem_of_getElem? (i := 2) rfl)) (fun _ h9 => h9) rfl dX5_addPoint_16 ?_
      refine lv_iconst (v := 1) hx hb dX5_addPoint_19 (by decide) ?_
      refine lv_aload_n hx hb dX5_addPoint_20 rfl (lv_at hl 0 rfl) ?_
      refine va_get (D := D) (cl := vwCl) (ci := 5) (v := .int x1) (C := RX5) (T := TX5) (N := 12) hx hb hts in_X5_addPoint_X5 hown hK hP q0 (wl_at (x_lt (x_suit0 hq0)) e8) rfl 0 (by decide) (hts (.fieldLink RX5 37 "EightReasons$Suit" "points" "I") (List.mem_of_getElem? (i := 1) rfl)) (fun _ h9 => h9) rfl dX5_addPoint_21 ?_
      refine lv_ishl hx hb dX5_addPoint_24 ?_
      refine lv_topi (fun x29 ex29 => ?_)
      have hx29 := r_shl (K := 9) (M := 512) ex29 (by decide) (by decide) (by omega) (by omega)
      refine lv_ior hx hb dX5_addPoint_25 ?_
      refine lv_topi (fun x30 ex30 => ?_)
      refine va_put (D := D) (cl := vwCl) (ci := 5) (v := .int x30) (ty := tyX5 1) (C := RX5) (T := TX5) (N := 12) hx hb hts in_X5_addPoint_X5 tyX5 tyX5_ok nmX5 hown hK hP hD hS q0 (wl_at (x_lt (x_suit0 hq0)) e8) rfl 1 (by decide) (hts (.fieldLink RX5 41 "EightReasons$Suit" "facts" "I") (List.mem_of_getElem? (i := 2) rfl)) (fun _ h9 => h9) rfl (tyX5_ok 1 (by decide)) rfl rfl (Nat.le_of_ble_eq_true rfl) dX5_addPoint_26 (fun H locs hP hD hS => ?_)
      obtain ⟨f, hT, hP, hD, e31, hj32⟩ := stU (x_lt (x_suit0 hq0)) (TYx.up hT (x_suit0 hq0) (ok_suit hq0 ⟨x1, x30, x4, x6, x7, rfl, by omega, by omega⟩)) hP hD
      refine lv_aload_n hx hb dX5_addPoint_29 rfl (lv_at hl 0 rfl) ?_
      refine va_get (D := D) (cl := vwCl) (ci := 5) (v := .ref (ad (q0 + 1))) (C := RX5) (T := TX5) (N := 12) hx hb hts in_X5_addPoint_X5 hown hK hP q0 (wl_at (x_lt (x_suit0 hq0)) e31) rfl 5 (by decide) (hts (.fieldLink RX5 9 "EightReasons$Suit" "needs" "[I") (List.mem_of_getElem? (i := 3) rfl)) (fun _ h9 => h9) rfl dX5_addPoint_30 ?_
      refine lv_aload_n hx hb dX5_addPoint_33 rfl (lv_at hl 0 rfl) ?_
      refine va_get (D := D) (cl := vwCl) (ci := 5) (v := .int x1) (C := RX5) (T := TX5) (N := 12) hx hb hts in_X5_addPoint_X5 hown hK hP q0 (wl_at (x_lt (x_suit0 hq0)) e31) rfl 0 (by decide) (hts (.fieldLink RX5 37 "EightReasons$Suit" "points" "I") (List.mem_of_getElem? (i := 1) rfl)) (fun _ h9 => h9) rfl dX5_addPoint_34 ?_
      refine lv_iload_n hx hb dX5_addPoint_37 rfl (lv_at hl 2 rfl) ?_
      obtain ⟨g34, e33⟩ := (ty_suit1 hT hq0)
      refine va_iast hx hb hK hP hD hS (q0 + 1) 0 (wl_at (x_lt (x_suit hq0 (by decide))) e33) rfl (vp_in_iff.mpr ⟨by omega, by omega⟩) dX5_addPoint_38 (fun H locs hP hD hS => ?_)
      obtain ⟨f, hT, hP, hD, e35, hj36⟩ := stU (x_lt (x_suit hq0 (by decide))) (TYx.up hT (x_suit hq0 (by decide)) (ok_suit1 hq0 ⟨_, rfl⟩)) hP hD
      have e37 := (hj36 q0 (by omega)).trans e31
      refine lv_aload_n hx hb dX5_addPoint_39 rfl (lv_at hl 0 rfl) ?_
      refine va_get (D := D) (cl := vwCl) (ci := 5) (v := .ref (ad (q0 + 2))) (C := RX5) (T := TX5) (N := 12) hx hb hts in_X5_addPoint_X5 hown hK hP q0 (wl_at (x_lt (x_suit0 hq0)) e37) rfl 6 (by decide) (hts (.fieldLink RX5 15 "EightReasons$Suit" "into" "[I") (List.mem_of_getElem? (i := 4) rfl)) (fun _ h9 => h9) rfl dX5_addPoint_40 ?_
      refine lv_aload_n hx hb dX5_addPoint_43 rfl (lv_at hl 0 rfl) ?_
      refine va_get (D := D) (cl := vwCl) (ci := 5) (v := .int x1) (C := RX5) (T := TX5) (N := 12) hx hb hts in_X5_addPoint_X5 hown hK hP q0 (wl_at (x_lt (x_suit0 hq0)) e37) rfl 0 (by decide) (hts (.fieldLink RX5 37 "EightReasons$Suit" "points" "I") (List.mem_of_getElem? (i := 1) rfl)) (fun _ h9 => h9) rfl dX5_addPoint_44 ?_
      refine lv_iconst (v := 0) hx hb dX5_addPoint_47 (by decide) ?_
      obtain ⟨g39, e38⟩ := (ty_suit2 hT hq0)
      refine va_iast hx hb hK hP hD hS (q0 + 2) 0 (wl_at (x_lt (x_suit hq0 (by decide))) e38) rfl (vp_in_iff.mpr ⟨by omega, by omega⟩) dX5_addPoint_48 (fun H locs hP hD hS => ?_)
      obtain ⟨f, hT, hP, hD, e40, hj41⟩ := stU (x_lt (x_suit hq0 (by decide))) (TYx.up hT (x_suit hq0 (by decide)) (ok_suit2 hq0 ⟨_, rfl⟩)) hP hD
      have e42 := (hj41 q0 (by omega)).trans e37
      refine lv_aload_n hx hb dX5_addPoint_49 rfl (lv_at hl 0 rfl) ?_
      refine va_get (D := D) (cl := vwCl) (ci := 5) (v := .ref (ad (q0 + 3))) (C := RX5) (T := TX5) (N := 12) hx hb hts in_X5_addPoint_X5 hown hK hP q0 (wl_at (x_lt (x_suit0 hq0)) e42) rfl 7 (by decide) (hts (.fieldLink RX5 18 "EightReasons$Suit" "from" "[I") (List.mem_of_getElem? (i := 5) rfl)) (fun _ h9 => h9) rfl dX5_addPoint_50 ?_
      refine lv_aload_n hx hb dX5_addPoint_53 rfl (lv_at hl 0 rfl) ?_
      refine va_get (D := D) (cl := vwCl) (ci := 5) (v := .int x1) (C := RX5) (T := TX5) (N := 12) hx hb hts in_X5_addPoint_X5 hown hK hP q0 (wl_at (x_lt (x_suit0 hq0)) e42) rfl 0 (by decide) (hts (.fieldLink RX5 37 "EightReasons$Suit" "points" "I") (List.mem_of_getElem? (i := 1) rfl)) (fun _ h9 => h9) rfl dX5_addPoint_54 ?_
      refine lv_iconst (v := 0) hx hb dX5_addPoint_57 (by decide) ?_
      obtain ⟨g44, e43⟩ := (ty_suit3 hT hq0)
      refine va_iast hx hb hK hP hD hS (q0 + 3) 0 (wl_at (x_lt (x_suit hq0 (by decide))) e43) rfl (vp_in_iff.mpr ⟨by omega, by omega⟩) dX5_addPoint_58 (fun H locs hP hD hS => ?_)
      obtain ⟨f, hT, hP, hD, e45, hj46⟩ := stU (x_lt (x_suit hq0 (by decide))) (TYx.up hT (x_suit hq0 (by decide)) (ok_suit3 hq0 ⟨_, rfl⟩)) hP hD
      have e47 := (hj46 q0 (by omega)).trans e42
      refine lv_aload_n hx hb dX5_addPoint_59 rfl (lv_at hl 0 rfl) ?_
      refine lv_dup hx hb dX5_addPoint_60 rfl ?_
      refine va_get (D := D) (cl := vwCl) (ci := 5) (v := .int x1) (C := RX5) (T := TX5) (N := 12) hx hb hts in_X5_addPoint_X5 hown hK hP q0 (wl_at (x_lt (x_suit0 hq0)) e47) rfl 0 (by decide) (hts (.fieldLink RX5 37 "EightReasons$Suit" "points" "I") (List.mem_of_getElem? (i := 1) rfl)) (fun _ h9 => h9) rfl dX5_addPoint_61 ?_
      refine lv_iconst (v := 1) hx hb dX5_addPoint_64 (by decide) ?_
      have ttl_1 := tl_1
      refine lv_iadd hx hb dX5_addPoint_65 ?_
      refine lv_topi (fun x48 ex48 => ?_)
      have hx48 := r_add ex48 (by omega) (by omega)
      refine va_put (D := D) (cl := vwCl) (ci := 5) (v := .int x48) (ty := tyX5 0) (C := RX5) (T := TX5) (N := 12) hx hb hts in_X5_addPoint_X5 tyX5 tyX5_ok nmX5 hown hK hP hD hS q0 (wl_at (x_lt (x_suit0 hq0)) e47) rfl 0 (by decide) (hts (.fieldLink RX5 37 "EightReasons$Suit" "points" "I") (List.mem_of_getElem? (i := 1) rfl)) (fun _ h9 => h9) rfl (tyX5_ok 0 (by decide)) rfl rfl (Nat.le_of_ble_eq_true rfl) dX5_addPoint_66 (fun H locs hP hD hS => ?_)
      obtain ⟨f, hT, hP, hD, e49, hj50⟩ := stU (x_lt (x_suit0 hq0)) (TYx.up hT (x_suit0 hq0) (ok_suit hq0 ⟨x48, x30, x4, x6, x7, rfl, by omega, by omega⟩)) hP hD
      exact tV hx hb hr hlk hP hS ⟨trivial, hT⟩ dX5_addPoint_69
  · have kc9 := c_nlt c9
    exact tV hx hb hr hlk hP hS ⟨trivial, hT⟩ dX5_addPoint_9
set_option maxHeartbeats 4000000 in
set_option maxRecDepth 100000 in
theorem s_X3_readClaim_0 (l : Launch) (B0 : Nat) (adK adV : Nat → Nat) (D : va_G) (cy : Nat → ClassId) (ad : Nat → Nat) (fr0 : Nat → va_E) (tx : Int32) (rby : Int32) (rnx : Int32) (f : Nat → va_E) (hT : TYx ad cy fr0 tx rby rnx f) (sz : Nat) : TtV l yX3_readClaim wsX3_readClaim 6 150 [.ref (ad 1)] B0 adK adV D cy ad f sz (fun (g : Nat → va_E) => True ∧ (∃ (rnx' : Int32), TYx ad cy fr0 tx rby rnx' g)) := by
  refine TtV.of (cc := cX3_readClaim) (maxL := 2) (own := RX3) (by decide) rfl (Nat.le_of_ble_eq_true rfl) rfl ?_
  intro p e s m below meth c A ls hx hb hr hml hts hown hlk hK hE hP hD hS hA hAB hl
  have hl : lv_has ls 2 [(0, .ref (ad 1))] := hl
  refine st0 (fun H locs hP hS => ?_) hP hS
  have j18 : ∀ (f : Nat → va_E) (H : Heap) (locs : List Loc) (ls : Array Slot) (v18_s1 : Int32), (0 ≤ v18_s1.toInt ∧ v18_s1.toInt ≤ 1) → (TYx ad cy fr0 tx rby rnx f) → (va_P D vwCl (wl ad f) H) → (va_D A (wl ad f)) → (va_S A s.heap H locs) → (lv_has ls 2 [(0, .ref (ad 1))]) → W p l e (rmO 6 150 0 0) s m ([.ref (ad 1)] : List Value).toArray below meth c H locs 0 0 (MQ below (va_Qv (fun (g : Nat → va_E) => True ∧ (∃ (rnx' : Int32), TYx ad cy fr0 tx rby rnx' g)) (fun g t => PstT D ad g t) A) ([.ref (ad 1)] : List Value).toArray s 0 0 A) (F0 m 18 ls [.int v18_s1, .ref (ad 1)]) := by
    intro f H locs ls v18_s1 hv18_s1 hT hP hD hS hl
    obtain ⟨x1, x2, t4, x6, x8, x9, x10, y11, e12, h3, h5, h7⟩ := (show okX3 ad rby rnx 1 (f 1) from hT.1 1 (by decide))
    refine tVI (As := [.int v18_s1]) (rest := []) (i := 1) ⟨hx, hb, hml, hown, hts⟩ hK hE hP hD hS hA hAB (s_X3_begin_0 l B0 adK adV D cy ad fr0 tx rby rnx f hT v18_s1 (by omega) _) (cwV 1 hts gX3_readClaim_X3_begin rfl rfl rfl (by decide +kernel) ⟨Nat.le_of_ble_eq_true rfl, Nat.le_of_ble_eq_true rfl⟩) (by decide) 3 e12 rfl rfl hl.1 rfl (Nat.le_of_ble_eq_true rfl) dX3_readClaim_18 ⟨Nat.le_of_ble_eq_true rfl, Nat.le_of_ble_eq_true rfl⟩ (fun r f H locs hw hP hD hS => ?_)
    obtain ⟨hrs, x13, hT⟩ := hw
    obtain ⟨x14, rfl⟩ : ∃ q, q = r := ⟨_, rfl⟩
    rcases hrs with ⟨rfl, h15⟩ | ⟨rfl, h16⟩
    · refine lv_if_ne (tgt := 25) hx hb dX3_readClaim_21 (by decide) (fun _ => ?_) (fun c => absurd c (by decide))
      refine lv_aload_n hx hb dX3_readClaim_25 rfl (lv_at hl 0 rfl) ?_
      obtain ⟨x17, x18, t20, x22, x24, x25, x26, y27, e28, h19, h21, h23⟩ := (show okX3 ad rby x13 1 (f 1) from hT.1 1 (by decide))
      refine tVV (As := []) (rest := []) (i := 1) ⟨hx, hb, hml, hown, hts⟩ hK hE hP hD hS hA hAB (s_X3_readNewName_0 l B0 adK adV D cy ad fr0 tx rby x13 f hT _) (cwV 0 hts gX3_readClaim_X3_readNewName rfl rfl rfl (by decide +kernel) ⟨Nat.le_of_ble_eq_true rfl, Nat.le_of_ble_eq_true rfl⟩) (by decide) 3 e28 rfl rfl hl.1 rfl (Nat.le_of_ble_eq_true rfl) dX3_readClaim_26 ⟨Nat.le_of_ble_eq_true rfl, Nat.le_of_ble_eq_true rfl⟩ (fun f H locs hw hP hD hS => ?_)
      obtain ⟨hrs, x29, hT⟩ := hw
      refine lv_aload_n hx hb dX3_readClaim_29 rfl (lv_at hl 0 rfl) ?_
      refine lv_iconst (v := 2) hx hb dX3_readClaim_30 (by decide) ?_
      have ttl_2 := tl_2
      obtain ⟨x30, x31, t33, x35, x37, x38, x39, y40, e41, h32, h34, h36⟩ := (show okX3 ad rby x29 1 (f 1) from hT.1 1 (by decide))
      refine tVV (As := [.int 2]) (rest := []) (i := 1) ⟨hx, hb, hml, hown, hts⟩ hK hE hP hD hS hA hAB (s_X3_expect_0 l B0 adK adV D cy ad fr0 tx rby x29 f hT (2 : Int32) (by omega) _) (cwV 1 hts gX3_readClaim_X3_expect rfl rfl rfl (by decide +kernel) ⟨Nat.le_of_ble_eq_true rfl, Nat.le_of_ble_eq_true rfl⟩) (by decide) 3 e41 rfl rfl hl.1 rfl (Nat.le_of_ble_eq_true rfl) dX3_readClaim_31 ⟨Nat.le_of_ble_eq_true rfl, Nat.le_of_ble_eq_true rfl⟩ (fun f H locs hw hP hD hS => ?_)
      obtain ⟨hrs, x42, hT⟩ := hw
      refine lv_aload_n hx hb dX3_readClaim_34 rfl (lv_at hl 0 rfl) ?_
      refine lv_iconst (v := 1) hx hb dX3_readClaim_35 (by decide) ?_
      refine lv_bipush (v := 99) hx hb dX3_readClaim_36 (by decide) ?_
      have ttl_1 := tl_1
      have ttl_99 := tl_99
      obtain ⟨x43, x44, t46, x48, x50, x51, x52, y53, e54, h45, h47, h49⟩ := (show okX3 ad rby x42 1 (f 1) from hT.1 1 (by decide))
      refine tVI (As := [.int 1, .int 99]) (rest := []) (i := 1) ⟨hx, hb, hml, hown, hts⟩ hK hE hP hD hS hA hAB (s_X3_readNumber_0 l B0 adK adV D cy ad fr0 tx rby x42 f hT (1 : Int32) (by omega) (99 : Int32) (by omega) _) (cwV 2 hts gX3_readClaim_X3_readNumber rfl rfl rfl (by decide +kernel) ⟨Nat.le_of_ble_eq_true rfl, Nat.le_of_ble_eq_true rfl⟩) (by decide) 3 e54 rfl rfl hl.1 rfl (Nat.le_of_ble_eq_true rfl) dX3_readClaim_38 ⟨Nat.le_of_ble_eq_true rfl, Nat.le_of_ble_eq_true rfl⟩ (fun r f H locs hw hP hD hS => ?_)
      obtain ⟨hrs, x55, hT⟩ := hw
      obtain ⟨x56, rfl⟩ : ∃ q, q = r := ⟨_, rfl⟩
      have h57 := hrs
      refine lv_istore_n (lv' := [(1, .int x56), (0, .ref (ad 1))]) hx hb dX3_readClaim_41 rfl hl (by decide) rfl (fun ls hl => ?_)
      refine lv_aload_n hx hb dX3_readClaim_42 rfl (lv_at hl 1 rfl) ?_
      obtain ⟨x58, x59, t61, x63, x65, x66, x67, y68, e69, h60, h62, h64⟩ := (show okX3 ad rby x55 1 (f 1) from hT.1 1 (by decide))
      refine va_get (D := D) (cl := vwCl) (ci := 3) (v := .int x58) (C := RX3) (T := TX3) (N := 13) hx hb hts in_X3_readClaim_X3 hown hK hP 1 (wl_at (by decide) e69) rfl 0 (by decide) (hts (.fieldLink RX3 55 "EightReasons$Reader" "fault" "I") (List.mem_of_getElem? (i := 3) rfl)) (fun _ h9 => h9) rfl dX3_readClaim_43 ?_
      have ttl_0 := tl_0
      refine lv_if_ne (tgt := 58) hx hb dX3_readClaim_46 (by decide) (fun c70 => ?_) (fun c70 => ?_)
      · have kc70 := c_ne c70
        exact tV hx hb hr hlk hP hS ⟨trivial, ⟨x55, hT⟩⟩ dX3_readClaim_58
      · have kc70 := c_eq c70
        refine lv_aload_n hx hb dX3_readClaim_49 rfl (lv_at hl 1 rfl) ?_
        refine va_get (D := D) (cl := vwCl) (ci := 3) (v := .ref (ad t61)) (C := RX3) (T := TX3) (N := 13) hx hb hts in_X3_readClaim_X3 hown hK hP 1 (wl_at (by decide) e69) rfl 4 (by decide) (hts (.fieldLink RX3 22 "EightReasons$Reader" "suit" "LEightReasons$Suit;") (List.mem_of_getElem? (i := 1) rfl)) (fun _ h9 => h9) rfl dX3_readClaim_50 ?_
        refine lv_iconst (v := 0) hx hb dX3_readClaim_53 (by decide) ?_
        refine lv_iload_n hx hb dX3_readClaim_54 rfl (lv_at hl 0 rfl) ?_
        obtain ⟨x71, x73, x74, x76, x77, e78, h72, h75⟩ := (ty_suit hT h62)
        refine tVV (As := [.int 0, .int x56]) (rest := []) (i := t61) ⟨hx, hb, hml, hown, hts⟩ hK hE hP hD hS hA hAB (s_X5_addPoint_0 l B0 adK adV D cy ad fr0 tx rby x55 f hT t61 h62 (0 : Int32) (by omega) x56 _) (cwV 2 hts gX3_readClaim_X5_addPoint rfl rfl rfl (by decide +kernel) ⟨Nat.le_of_ble_eq_true rfl, Nat.le_of_ble_eq_true rfl⟩) (x_lt (x_suit0 h62)) 5 e78 rfl rfl hl.1 rfl (Nat.le_of_ble_eq_true rfl) dX3_readClaim_55 ⟨Nat.le_of_ble_eq_true rfl, Nat.le_of_ble_eq_true rfl⟩ (fun f H locs hw hP hD hS => ?_)
        obtain ⟨hrs, hT⟩ := hw
        exact tV hx hb hr hlk hP hS ⟨trivial, ⟨x55, hT⟩⟩ dX3_readClaim_58
    · refine lv_if_ne (tgt := 25) hx hb dX3_readClaim_21 (by decide) (fun c => absurd (by decide) c) (fun _ => ?_)
      exact tV hx hb hr hlk hP hS ⟨trivial, ⟨x13, hT⟩⟩ dX3_readClaim_24
  refine lv_aload_n hx hb dX3_readClaim_0 rfl (lv_at hl 0 rfl) ?_
  refine lv_aload_n hx hb dX3_readClaim_1 rfl (lv_at hl 0 rfl) ?_
  obtain ⟨x79, x80, t82, x84, x86, x87, x88, y89, e90, h81, h83, h85⟩ := (show okX3 ad rby rnx 1 (f 1) from hT.1 1 (by decide))
  refine va_get (D := D) (cl := vwCl) (ci := 3) (v := .ref (ad t82)) (C := RX3) (T := TX3) (N := 13) hx hb hts in_X3_readClaim_X3 hown hK hP 1 (wl_at (by decide) e90) rfl 4 (by decide) (hts (.fieldLink RX3 22 "EightReasons$Reader" "suit" "LEightReasons$Suit;") (List.mem_of_getElem? (i := 1) rfl)) (fun _ h9 => h9) rfl dX3_readClaim_2 ?_
  obtain ⟨x91, x93, x94, x96, x97, e98, h92, h95⟩ := (ty_suit hT h83)
  refine va_get (D := D) (cl := vwCl) (ci := 5) (v := .int x91) (C := RX5) (T := TX5) (N := 12) hx hb hts in_X3_readClaim_X5 hown hK hP t82 (wl_at (x_lt (x_suit0 h83)) e98) rfl 0 (by decide) (hts (.fieldLink RX3 149 "EightReasons$Suit" "points" "I") (List.mem_of_getElem? (i := 2) rfl)) (fun _ h9 => h9) rfl dX3_readClaim_5 ?_
  refine lv_bipush (v := 10) hx hb dX3_readClaim_8 (by decide) ?_
  have ttl_10 := tl_10
  refine lv_icmp_ge (tgt := 17) hx hb dX3_readClaim_10 (by decide) (fun c99 => ?_) (fun c99 => ?_)
  · have kc99 := c_le c99
    refine lv_iconst (v := 0) hx hb dX3_readClaim_17 (by decide) ?_
    have ttl_0 := tl_0
    exact j18 f H locs ls (0 : Int32) (by omega) hT hP hD hS (lv_sub hl [0] rfl)
  · have kc99 := c_nle c99
    refine lv_iconst (v := 1) hx hb dX3_readClaim_13 (by decide) ?_
    refine lv_goto (tgt := 18) hx hb dX3_readClaim_14 (by decide) ?_
    have ttl_1 := tl_1
    exact j18 f H locs ls (1 : Int32) (by omega) hT hP hD hS (lv_sub hl [0] rfl)
