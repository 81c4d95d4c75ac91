set_option maxRecDepth 20000 in
theorem ggX9_suit_X9_clearBank : GoodIn wsX9_suit wsX9_clearBank := goodIn_r _ [16, 11, 9, 17, 18, 19, 20, 21, 22, 191, 192, 193, 194, 195, 196, 197, 198, 199, 200, 201, 202, 203, 204, 205, 206, 207, 208, 209, 210, 211, 212, 213, 214, 215, 216, 217, 218, 219, 220, 221, 222, 223, 224, 225, 226, 227, 228, 229, 230, 231, 232, 233, 234, 235, 236, 237, 238, 239, 240, 241, 242, 243, 244, 245, 246, 247, 248, 249, 250, 251, 252, 253, 254] rfl rfl
set_option maxRecDepth 20000 in
theorem gX9_suit_X9_clearBank : GoodIn wsX9_suit (wsV RX9 131 RX9 yX9_clearBank wsX9_clearBank) := goodIn_app (goodIn_of _ (by decide +kernel)) ggX9_suit_X9_clearBank
set_option maxRecDepth 20000 in
theorem ggX9_suit_X9_goOn : GoodIn wsX9_suit wsX9_goOn := goodIn_r _ [26, 7, 27, 4, 10, 28, 29, 30, 31, 32, 15, 33, 5, 34, 35, 36, 37, 38, 39, 40, 41, 42, 43, 44, 45, 46, 47, 48, 49, 50, 51, 52, 53, 54, 55, 56, 57, 58, 59, 191, 192, 193, 194, 195, 196, 197, 198, 199, 200, 201, 202, 203, 204, 205, 206, 207, 208, 209, 210, 211, 212, 213, 214, 215, 216, 217, 218, 219, 220, 221, 222, 223, 224, 225, 226, 227, 228, 229, 230, 231, 232, 233, 234, 235, 236, 237, 238, 239, 240, 241, 242, 243, 244, 245, 246, 247, 248, 249, 250, 251, 252, 253, 254] rfl rfl
set_option maxRecDepth 20000 in
theorem gX9_suit_X9_goOn : GoodIn wsX9_suit (wsV RX9 213 RX9 yX9_goOn wsX9_goOn) := goodIn_app (goodIn_of _ (by decide +kernel)) ggX9_suit_X9_goOn
set_option maxRecDepth 20000 in
theorem ggX9_suit_X9_isGood : GoodIn wsX9_suit wsX9_isGood := goodIn_r _ [63, 1, 191, 192, 193, 194, 195, 196, 197, 198, 199, 200, 201, 202, 203, 204, 205, 206, 207, 208, 209, 210, 211, 212, 213, 214, 215, 216, 217, 218, 219, 220, 221, 222, 223, 224, 225, 226, 227, 228, 229, 230, 231, 232, 233, 234, 235, 236, 237, 238, 239, 240, 241, 242, 243, 244, 245, 246, 247, 248, 249, 250, 251, 252, 253, 254] rfl rfl
set_option maxRecDepth 20000 in
theorem gX9_suit_X9_isGood : GoodIn wsX9_suit (wsV RX9 209 RX9 yX9_isGood wsX9_isGood) := goodIn_app (goodIn_of _ (by decide +kernel)) ggX9_suit_X9_isGood
set_option maxRecDepth 20000 in
theorem ggX9_suit_X9_readLine : GoodIn wsX9_suit wsX9_readLine := goodIn_r _ [67, 28, 10, 40, 41, 68, 9, 11, 69, 42, 43, 45, 46, 19, 47, 20, 70, 71, 72, 15, 73, 17, 21, 74, 75, 76, 77, 78, 79, 80, 81, 82, 83, 84, 27, 85, 86, 87, 88, 1, 2, 60, 61, 62, 63, 23, 24, 25, 26, 7, 4, 29, 30, 31, 32, 33, 5, 34, 35, 36, 37, 38, 39, 44, 48, 49, 50, 51, 52, 53, 54, 55, 56, 57, 58, 59, 89, 90, 91, 92, 93, 94, 95, 96, 97, 98, 99, 100, 101, 102, 103, 104, 105, 106, 107, 108, 109, 110, 111, 112, 113, 114, 115, 116, 117, 118, 119, 120, 121, 122, 123, 124, 125, 22, 126, 127, 128, 129, 130, 131, 132, 133, 134, 135, 136, 137, 138, 139, 140, 141, 142, 18, 143, 144, 145, 146, 147, 148, 149, 150, 151, 152, 153, 154, 155, 156, 157, 158, 159, 160, 161, 162, 163, 164, 165, 166, 167, 168, 169, 170, 171, 172, 191, 192, 193, 194, 195, 196, 197, 198, 199, 200, 201, 202, 203, 204, 205, 206, 207, 208, 209, 210, 211, 212, 213, 214, 215, 216, 217, 218, 219, 220, 221, 222, 223, 224, 225, 226, 227, 228, 229, 230, 231, 232, 233, 234, 235, 236, 237, 238, 239, 240, 241, 242, 243, 244, 245, 246, 247, 248, 249, 250, 251, 252, 253, 254] rfl rfl
set_option maxRecDepth 20000 in
theorem gX9_suit_X9_readLine : GoodIn wsX9_suit (wsV RX9 242 RX9 yX9_readLine wsX9_readLine) := goodIn_app (goodIn_of _ (by decide +kernel)) ggX9_suit_X9_readLine
set_option maxRecDepth 20000 in
theorem ggX9_suit_X9_startAnew : GoodIn wsX9_suit wsX9_startAnew := goodIn_r _ [176, 177, 178, 179, 180, 181, 182, 183, 184, 15, 185, 186, 115, 8, 20, 187, 188, 189, 190, 17, 191, 192, 193, 194, 195, 196, 197, 198, 199, 200, 201, 202, 203, 204, 205, 206, 207, 208, 209, 210, 211, 212, 213, 214, 215, 216, 217, 218, 219, 220, 221, 222, 223, 224, 225, 226, 227, 228, 229, 230, 231, 232, 233, 234, 235, 236, 237, 238, 239, 240, 241, 242, 243, 244, 245, 246, 247, 248, 249, 250, 251, 252, 253, 254] rfl rfl
set_option maxRecDepth 20000 in
theorem gX9_suit_X9_startAnew : GoodIn wsX9_suit (wsV RX9 134 RX9 yX9_startAnew wsX9_startAnew) := goodIn_app (goodIn_of _ (by decide +kernel)) ggX9_suit_X9_startAnew
theorem dX9_suit_0 : decode cX9_suit 0 = .ok (.aload_n 0, 1) := by decide +kernel
theorem dX9_suit_1 : decode cX9_suit 1 = .ok (.iconst 0, 1) := by decide +kernel
theorem dX9_suit_2 : decode cX9_suit 2 = .ok (.putfield 140, 3) := by decide +kernel
theorem dX9_suit_5 : decode cX9_suit 5 = .ok (.aload_n 0, 1) := by decide +kernel
theorem dX9_suit_6 : decode cX9_suit 6 = .ok (.iconst (-1), 1) := by decide +kernel
theorem dX9_suit_7 : decode cX9_suit 7 = .ok (.putfield 16, 3) := by decide +kernel
theorem dX9_suit_10 : decode cX9_suit 10 = .ok (.aload_n 0, 1) := by decide +kernel
theorem dX9_suit_11 : decode cX9_suit 11 = .ok (.aload_n 0, 1) := by decide +kernel
theorem dX9_suit_12 : decode cX9_suit 12 = .ok (.getfield 236, 3) := by decide +kernel
theorem dX9_suit_15 : decode cX9_suit 15 = .ok (.putfield 137, 3) := by decide +kernel
theorem dX9_suit_18 : decode cX9_suit 18 = .ok (.iconst 0, 1) := by decide +kernel
theorem dX9_suit_19 : decode cX9_suit 19 = .ok (.istore_n 1, 1) := by decide +kernel
theorem dX9_suit_20 : decode cX9_suit 20 = .ok (.iload_n 1, 1) := by decide +kernel
theorem dX9_suit_21 : decode cX9_suit 21 = .ok (.aload_n 0, 1) := by decide +kernel
theorem dX9_suit_22 : decode cX9_suit 22 = .ok (.getfield 137, 3) := by decide +kernel
theorem dX9_suit_25 : decode cX9_suit 25 = .ok (.if_icmp .ge 21, 3) := by decide +kernel
theorem dX9_suit_28 : decode cX9_suit 28 = .ok (.aload_n 0, 1) := by decide +kernel
theorem dX9_suit_29 : decode cX9_suit 29 = .ok (.getfield 13, 3) := by decide +kernel
theorem dX9_suit_32 : decode cX9_suit 32 = .ok (.iload_n 1, 1) := by decide +kernel
theorem dX9_suit_33 : decode cX9_suit 33 = .ok (.aload_n 0, 1) := by decide +kernel
theorem dX9_suit_34 : decode cX9_suit 34 = .ok (.getfield 7, 3) := by decide +kernel
theorem dX9_suit_37 : decode cX9_suit 37 = .ok (.iload_n 1, 1) := by decide +kernel
theorem dX9_suit_38 : decode cX9_suit 38 = .ok (.baload, 1) := by decide +kernel
theorem dX9_suit_39 : decode cX9_suit 39 = .ok (.bastore, 1) := by decide +kernel
theorem dX9_suit_40 : decode cX9_suit 40 = .ok (.iinc 1 1, 3) := by decide +kernel
theorem dX9_suit_43 : decode cX9_suit 43 = .ok (.goto (-23), 3) := by decide +kernel
theorem dX9_suit_46 : decode cX9_suit 46 = .ok (.aload_n 0, 1) := by decide +kernel
theorem dX9_suit_47 : decode cX9_suit 47 = .ok (.iconst 0, 1) := by decide +kernel
theorem dX9_suit_48 : decode cX9_suit 48 = .ok (.putfield 236, 3) := by decide +kernel
theorem dX9_suit_51 : decode cX9_suit 51 = .ok (.aload_n 0, 1) := by decide +kernel
theorem dX9_suit_52 : decode cX9_suit 52 = .ok (.iconst 0, 1) := by decide +kernel
theorem dX9_suit_53 : decode cX9_suit 53 = .ok (.putfield 171, 3) := by decide +kernel
theorem dX9_suit_56 : decode cX9_suit 56 = .ok (.aload_n 0, 1) := by decide +kernel
theorem dX9_suit_57 : decode cX9_suit 57 = .ok (.iconst 1, 1) := by decide +kernel
theorem dX9_suit_58 : decode cX9_suit 58 = .ok (.aload_n 0, 1) := by decide +kernel
theorem dX9_suit_59 : decode cX9_suit 59 = .ok (.getfield 239, 3) := by decide +kernel
theorem dX9_suit_62 : decode cX9_suit 62 = .ok (.isub, 1) := by decide +kernel
theorem dX9_suit_63 : decode cX9_suit 63 = .ok (.putfield 230, 3) := by decide +kernel
theorem dX9_suit_66 : decode cX9_suit 66 = .ok (.aload_n 0, 1) := by decide +kernel
theorem dX9_suit_67 : decode cX9_suit 67 = .ok (.invokevirtual 131, 3) := by decide +kernel
theorem dX9_suit_70 : decode cX9_suit 70 = .ok (.aload_n 0, 1) := by decide +kernel
theorem dX9_suit_71 : decode cX9_suit 71 = .ok (.invokevirtual 213, 3) := by decide +kernel
theorem dX9_suit_74 : decode cX9_suit 74 = .ok (.aload_n 0, 1) := by decide +kernel
theorem dX9_suit_75 : decode cX9_suit 75 = .ok (.invokevirtual 209, 3) := by decide +kernel
theorem dX9_suit_78 : decode cX9_suit 78 = .ok (.ifCond .eq 17, 3) := by decide +kernel
theorem dX9_suit_81 : decode cX9_suit 81 = .ok (.aload_n 0, 1) := by decide +kernel
theorem dX9_suit_82 : decode cX9_suit 82 = .ok (.getfield 181, 3) := by decide +kernel
theorem dX9_suit_85 : decode cX9_suit 85 = .ok (.ifCond .eq 10, 3) := by decide +kernel
theorem dX9_suit_88 : decode cX9_suit 88 = .ok (.aload_n 0, 1) := by decide +kernel
theorem dX9_suit_89 : decode cX9_suit 89 = .ok (.invokevirtual 242, 3) := by decide +kernel
theorem dX9_suit_92 : decode cX9_suit 92 = .ok (.goto (-18), 3) := by decide +kernel
theorem dX9_suit_95 : decode cX9_suit 95 = .ok (.aload_n 0, 1) := by decide +kernel
theorem dX9_suit_96 : decode cX9_suit 96 = .ok (.invokevirtual 209, 3) := by decide +kernel
theorem dX9_suit_99 : decode cX9_suit 99 = .ok (.ifCond .ne 5, 3) := by decide +kernel
theorem dX9_suit_102 : decode cX9_suit 102 = .ok (.iconst (-1), 1) := by decide +kernel
theorem dX9_suit_103 : decode cX9_suit 103 = .ok (.ireturn, 1) := by decide +kernel
theorem dX9_suit_104 : decode cX9_suit 104 = .ok (.aload_n 0, 1) := by decide +kernel
theorem dX9_suit_105 : decode cX9_suit 105 = .ok (.aload_n 0, 1) := by decide +kernel
theorem dX9_suit_106 : decode cX9_suit 106 = .ok (.getfield 230, 3) := by decide +kernel
theorem dX9_suit_109 : decode cX9_suit 109 = .ok (.putfield 239, 3) := by decide +kernel
theorem dX9_suit_112 : decode cX9_suit 112 = .ok (.aload_n 0, 1) := by decide +kernel
theorem dX9_suit_113 : decode cX9_suit 113 = .ok (.invokevirtual 134, 3) := by decide +kernel
theorem dX9_suit_116 : decode cX9_suit 116 = .ok (.aload_n 0, 1) := by decide +kernel
theorem dX9_suit_117 : decode cX9_suit 117 = .ok (.getfield 20, 3) := by decide +kernel
theorem dX9_suit_120 : decode cX9_suit 120 = .ok (.aload_n 0, 1) := by decide +kernel
theorem dX9_suit_121 : decode cX9_suit 121 = .ok (.getfield 239, 3) := by decide +kernel
theorem dX9_suit_124 : decode cX9_suit 124 = .ok (.iaload, 1) := by decide +kernel
theorem dX9_suit_125 : decode cX9_suit 125 = .ok (.ireturn, 1) := by decide +kernel
theorem dX9_fault_0 : decode cX9_fault 0 = .ok (.iload_n 1, 1) := by decide +kernel
theorem dX9_fault_1 : decode cX9_fault 1 = .ok (.ifCond .ne 10, 3) := by decide +kernel
theorem dX9_fault_4 : decode cX9_fault 4 = .ok (.aload_n 0, 1) := by decide +kernel
theorem dX9_fault_5 : decode cX9_fault 5 = .ok (.getfield 140, 3) := by decide +kernel
theorem dX9_fault_8 : decode cX9_fault 8 = .ok (.goto 16, 3) := by decide +kernel
theorem dX9_fault_11 : decode cX9_fault 11 = .ok (.iload_n 1, 1) := by decide +kernel
theorem dX9_fault_12 : decode cX9_fault 12 = .ok (.iconst 1, 1) := by decide +kernel
theorem dX9_fault_13 : decode cX9_fault 13 = .ok (.if_icmp .ne 10, 3) := by decide +kernel
theorem dX9_fault_16 : decode cX9_fault 16 = .ok (.aload_n 0, 1) := by decide +kernel
theorem dX9_fault_17 : decode cX9_fault 17 = .ok (.getfield 16, 3) := by decide +kernel
theorem dX9_fault_20 : decode cX9_fault 20 = .ok (.goto 4, 3) := by decide +kernel
theorem dX9_fault_23 : decode cX9_fault 23 = .ok (.iconst (-1), 1) := by decide +kernel
theorem dX9_fault_24 : decode cX9_fault 24 = .ok (.ireturn, 1) := by decide +kernel
theorem dX9_isIn_0 : decode cX9_isIn 0 = .ok (.iload_n 0, 1) := by decide +kernel
theorem dX9_isIn_1 : decode cX9_isIn 1 = .ok (.iload_n 1, 1) := by decide +kernel
theorem dX9_isIn_2 : decode cX9_isIn 2 = .ok (.if_icmp .lt 12, 3) := by decide +kernel
theorem dX9_isIn_5 : decode cX9_isIn 5 = .ok (.iload_n 0, 1) := by decide +kernel
theorem dX9_isIn_6 : decode cX9_isIn 6 = .ok (.iload_n 2, 1) := by decide +kernel
theorem dX9_isIn_7 : decode cX9_isIn 7 = .ok (.if_icmp .gt 7, 3) := by decide +kernel
theorem dX9_isIn_10 : decode cX9_isIn 10 = .ok (.iconst 1, 1) := by decide +kernel
theorem dX9_isIn_11 : decode cX9_isIn 11 = .ok (.goto 4, 3) := by decide +kernel
theorem dX9_isIn_14 : decode cX9_isIn 14 = .ok (.iconst 0, 1) := by decide +kernel
theorem dX9_isIn_15 : decode cX9_isIn 15 = .ok (.ireturn, 1) := by decide +kernel
theorem dX9_bitsOf_0 : decode cX9_bitsOf 0 = .ok (.iconst 0, 1) := by decide +kernel
theorem dX9_bitsOf_1 : decode cX9_bitsOf 1 = .ok (.istore_n 1, 1) := by decide +kernel
theorem dX9_bitsOf_2 : decode cX9_bitsOf 2 = .ok (.iload_n 0, 1) := by decide +kernel
theorem dX9_bitsOf_3 : decode cX9_bitsOf 3 = .ok (.istore_n 2, 1) := by decide +kernel
theorem dX9_bitsOf_4 : decode cX9_bitsOf 4 = .ok (.iload_n 2, 1) := by decide +kernel
theorem dX9_bitsOf_5 : decode cX9_bitsOf 5 = .ok (.ifCond .eq 15, 3) := by decide +kernel
theorem dX9_bitsOf_8 : decode cX9_bitsOf 8 = .ok (.iinc 1 1, 3) := by decide +kernel
theorem dX9_bitsOf_11 : decode cX9_bitsOf 11 = .ok (.iload_n 2, 1) := by decide +kernel
theorem dX9_bitsOf_12 : decode cX9_bitsOf 12 = .ok (.iload_n 2, 1) := by decide +kernel
theorem dX9_bitsOf_13 : decode cX9_bitsOf 13 = .ok (.iconst 1, 1) := by decide +kernel
theorem dX9_bitsOf_14 : decode cX9_bitsOf 14 = .ok (.isub, 1) := by decide +kernel
theorem dX9_bitsOf_15 : decode cX9_bitsOf 15 = .ok (.iand, 1) := by decide +kernel
theorem dX9_bitsOf_16 : decode cX9_bitsOf 16 = .ok (.istore_n 2, 1) := by decide +kernel
theorem dX9_bitsOf_17 : decode cX9_bitsOf 17 = .ok (.goto (-13), 3) := by decide +kernel
theorem dX9_bitsOf_20 : decode cX9_bitsOf 20 = .ok (.iload_n 1, 1) := by decide +kernel
theorem dX9_bitsOf_21 : decode cX9_bitsOf 21 = .ok (.ireturn, 1) := by decide +kernel
theorem dX9_many_0 : decode cX9_many 0 = .ok (.aload_n 0, 1) := by decide +kernel
theorem dX9_many_1 : decode cX9_many 1 = .ok (.getfield 20, 3) := by decide +kernel
theorem dX9_many_4 : decode cX9_many 4 = .ok (.aload_n 0, 1) := by decide +kernel
theorem dX9_many_5 : decode cX9_many 5 = .ok (.getfield 239, 3) := by decide +kernel
theorem dX9_many_8 : decode cX9_many 8 = .ok (.iaload, 1) := by decide +kernel
theorem dX9_many_9 : decode cX9_many 9 = .ok (.ireturn, 1) := by decide +kernel
theorem dX9_threads_0 : decode cX9_threads 0 = .ok (.aload_n 0, 1) := by decide +kernel
theorem dX9_threads_1 : decode cX9_threads 1 = .ok (.getfield 24, 3) := by decide +kernel
theorem dX9_threads_4 : decode cX9_threads 4 = .ok (.aload_n 0, 1) := by decide +kernel
theorem dX9_threads_5 : decode cX9_threads 5 = .ok (.getfield 239, 3) := by decide +kernel
theorem dX9_threads_8 : decode cX9_threads 8 = .ok (.iaload, 1) := by decide +kernel
theorem dX9_threads_9 : decode cX9_threads 9 = .ok (.ireturn, 1) := by decide +kernel
set_option maxRecDepth 20000 in
theorem ggX9_isPoint_X9_many : GoodIn wsX9_isPoint wsX9_many := goodIn_r _ [5, 6, 7, 11, 12, 13, 14, 15, 16, 17, 18, 19, 20, 21, 22, 23, 24, 25, 26, 27, 28, 29, 30, 31, 32, 33, 34, 35, 36, 37, 38, 39, 40, 41, 42, 43, 44, 45, 46, 47, 48, 49, 50, 51, 52, 53, 54, 55, 56, 57, 58, 59, 60, 61, 62, 63, 64, 65, 66, 67, 68, 69, 70, 71, 72, 73, 74] rfl rfl
set_option maxRecDepth 20000 in
theorem gX9_isPoint_X9_many : GoodIn wsX9_isPoint (wsV RX9 343 RX9 yX9_many wsX9_many) := goodIn_app (goodIn_of _ (by decide +kernel)) ggX9_isPoint_X9_many
set_option maxRecDepth 20000 in
theorem ggX9_isPoint_X9_isIn : GoodIn wsX9_isPoint wsX9_isIn := goodIn_r _ [10] rfl rfl
set_option maxRecDepth 20000 in
theorem gX9_isPoint_X9_isIn : GoodIn wsX9_isPoint (va_wsS RX9 346 yX9_isIn wsX9_isIn) := goodIn_app (goodIn_of _ (by decide +kernel)) ggX9_isPoint_X9_isIn
theorem dX9_isPoint_0 : decode cX9_isPoint 0 = .ok (.iload_n 1, 1) := by decide +kernel
theorem dX9_isPoint_1 : decode cX9_isPoint 1 = .ok (.iconst 0, 1) := by decide +kernel
theorem dX9_isPoint_2 : decode cX9_isPoint 2 = .ok (.aload_n 0, 1) := by decide +kernel
theorem dX9_isPoint_3 : decode cX9_isPoint 3 = .ok (.invokevirtual 343, 3) := by decide +kernel
theorem dX9_isPoint_6 : decode cX9_isPoint 6 = .ok (.iconst 1, 1) := by decide +kernel
theorem dX9_isPoint_7 : decode cX9_isPoint 7 = .ok (.isub, 1) := by decide +kernel
theorem dX9_isPoint_8 : decode cX9_isPoint 8 = .ok (.invokestatic 346, 3) := by decide +kernel
theorem dX9_isPoint_11 : decode cX9_isPoint 11 = .ok (.ireturn, 1) := by decide +kernel
set_option maxRecDepth 20000 in
theorem ggX9_isThread_X9_threads : GoodIn wsX9_isThread wsX9_threads := goodIn_r _ [5, 6, 7, 11, 12, 13, 14, 15, 16, 17, 18, 19, 20, 21, 22, 23, 24, 25, 26, 27, 28, 29, 30, 31, 32, 33, 34, 35, 36, 37, 38, 39, 40, 41, 42, 43, 44, 45, 46, 47, 48, 49, 50, 51, 52, 53, 54, 55, 56, 57, 58, 59, 60, 61, 62, 63, 64, 65, 66, 67, 68, 69, 70, 71, 72, 73, 74] rfl rfl
set_option maxRecDepth 20000 in
theorem gX9_isThread_X9_threads : GoodIn wsX9_isThread (wsV RX9 350 RX9 yX9_threads wsX9_threads) := goodIn_app (goodIn_of _ (by decide +kernel)) ggX9_isThread_X9_threads
set_option maxRecDepth 20000 in
theorem ggX9_isThread_X9_isIn : GoodIn wsX9_isThread wsX9_isIn := goodIn_r _ [10] rfl rfl
set_option maxRecDepth 20000 in
theorem gX9_isThread_X9_isIn : GoodIn wsX9_isThread (va_wsS RX9 346 yX9_isIn wsX9_isIn) := goodIn_app (goodIn_of _ (by decide +kernel)) ggX9_isThread_X9_isIn
theorem dX9_isThread_0 : decode cX9_isThread 0 = .ok (.iload_n 1, 1) := by decide +kernel
theorem dX9_isThread_1 : decode cX9_isThread 1 = .ok (.iconst 0, 1) := by decide +kernel
theorem dX9_isThread_2 : decode cX9_isThread 2 = .ok (.aload_n 0, 1) := by decide +kernel
theorem dX9_isThread_3 : decode cX9_isThread 3 = .ok (.invokevirtual 350, 3) := by decide +kernel
theorem dX9_isThread_6 : decode cX9_isThread 6 = .ok (.iconst 1, 1) := by decide +kernel
theorem dX9_isThread_7 : decode cX9_isThread 7 = .ok (.isub, 1) := by decide +kernel
theorem dX9_isThread_8 : decode cX9_isThread 8 = .ok (.invokestatic 346, 3) := by decide +kernel
theorem dX9_isThread_11 : decode cX9_isThread 11 = .ok (.ireturn, 1) := by decide +kernel
set_option maxRecDepth 20000 in
theorem ggX9_isFact_X9_isPoint : GoodIn wsX9_isFact wsX9_isPoint := goodIn_r _ [7, 8, 9, 10, 6, 11, 12, 2, 13, 14, 15, 16, 17, 18, 19, 20, 21, 22, 23, 24, 25, 26, 27, 28, 29, 30, 31, 32, 33, 34, 35, 36, 37, 38, 39, 40, 41, 42, 43, 44, 45, 46, 47, 48, 49, 50, 51, 52, 53, 54, 55, 56, 57, 58, 59, 60, 61, 62, 63, 64, 65, 66, 67, 68, 69, 70, 71, 72, 73, 74, 75, 76, 77, 78, 79] rfl rfl
set_option maxRecDepth 20000 in
theorem gX9_isFact_X9_isPoint : GoodIn wsX9_isFact (wsV RX9 353 RX9 yX9_isPoint wsX9_isPoint) := goodIn_app (goodIn_of _ (by decide +kernel)) ggX9_isFact_X9_isPoint
theorem dX9_isFact_0 : decode cX9_isFact 0 = .ok (.aload_n 0, 1) := by decide +kernel
theorem dX9_isFact_1 : decode cX9_isFact 1 = .ok (.iload_n 1, 1) := by decide +kernel
theorem dX9_isFact_2 : decode cX9_isFact 2 = .ok (.invokevirtual 353, 3) := by decide +kernel
theorem dX9_isFact_5 : decode cX9_isFact 5 = .ok (.ifCond .eq 24, 3) := by decide +kernel
theorem dX9_isFact_8 : decode cX9_isFact 8 = .ok (.aload_n 0, 1) := by decide +kernel
theorem dX9_isFact_9 : decode cX9_isFact 9 = .ok (.getfield 39, 3) := by decide +kernel
theorem dX9_isFact_12 : decode cX9_isFact 12 = .ok (.bipush 10, 2) := by decide +kernel
theorem dX9_isFact_14 : decode cX9_isFact 14 = .ok (.aload_n 0, 1) := by decide +kernel
theorem dX9_isFact_15 : decode cX9_isFact 15 = .ok (.getfield 239, 3) := by decide +kernel
theorem dX9_isFact_18 : decode cX9_isFact 18 = .ok (.imul, 1) := by decide +kernel
theorem dX9_isFact_19 : decode cX9_isFact 19 = .ok (.iload_n 1, 1) := by decide +kernel
theorem dX9_isFact_20 : decode cX9_isFact 20 = .ok (.iadd, 1) := by decide +kernel
theorem dX9_isFact_21 : decode cX9_isFact 21 = .ok (.iaload, 1) := by decide +kernel
theorem dX9_isFact_22 : decode cX9_isFact 22 = .ok (.ifCond .ne 7, 3) := by decide +kernel
theorem dX9_isFact_25 : decode cX9_isFact 25 = .ok (.iconst 1, 1) := by decide +kernel
theorem dX9_isFact_26 : decode cX9_isFact 26 = .ok (.goto 4, 3) := by decide +kernel
theorem dX9_isFact_29 : decode cX9_isFact 29 = .ok (.iconst 0, 1) := by decide +kernel
theorem dX9_isFact_30 : decode cX9_isFact 30 = .ok (.ireturn, 1) := by decide +kernel
theorem dX9_fromOf_0 : decode cX9_fromOf 0 = .ok (.aload_n 0, 1) := by decide +kernel
theorem dX9_fromOf_1 : decode cX9_fromOf 1 = .ok (.getfield 42, 3) := by decide +kernel
theorem dX9_fromOf_4 : decode cX9_fromOf 4 = .ok (.bipush 12, 2) := by decide +kernel
theorem dX9_fromOf_6 : decode cX9_fromOf 6 = .ok (.aload_n 0, 1) := by decide +kernel
theorem dX9_fromOf_7 : decode cX9_fromOf 7 = .ok (.getfield 239, 3) := by decide +kernel
theorem dX9_fromOf_10 : decode cX9_fromOf 10 = .ok (.imul, 1) := by decide +kernel
theorem dX9_fromOf_11 : decode cX9_fromOf 11 = .ok (.iload_n 1, 1) := by decide +kernel
theorem dX9_fromOf_12 : decode cX9_fromOf 12 = .ok (.iadd, 1) := by decide +kernel
theorem dX9_fromOf_13 : decode cX9_fromOf 13 = .ok (.iaload, 1) := by decide +kernel
theorem dX9_fromOf_14 : decode cX9_fromOf 14 = .ok (.ireturn, 1) := by decide +kernel
theorem dX9_toOf_0 : decode cX9_toOf 0 = .ok (.aload_n 0, 1) := by decide +kernel
theorem dX9_toOf_1 : decode cX9_toOf 1 = .ok (.getfield 45, 3) := by decide +kernel
theorem dX9_toOf_4 : decode cX9_toOf 4 = .ok (.bipush 12, 2) := by decide +kernel
theorem dX9_toOf_6 : decode cX9_toOf 6 = .ok (.aload_n 0, 1) := by decide +kernel
theorem dX9_toOf_7 : decode cX9_toOf 7 = .ok (.getfield 239, 3) := by decide +kernel
theorem dX9_toOf_10 : decode cX9_toOf 10 = .ok (.imul, 1) := by decide +kernel
theorem dX9_toOf_11 : decode cX9_toOf 11 = .ok (.iload_n 1, 1) := by decide +kernel
theorem dX9_toOf_12 : decode cX9_toOf 12 = .ok (.iadd, 1) := by decide +kernel
theorem dX9_toOf_13 : decode cX9_toOf 13 = .ok (.iaload, 1) := by decide +kernel
theorem dX9_toOf_14 : decode cX9_toOf 14 = .ok (.ireturn, 1) := by decide +kernel
theorem dX9_needOf_0 : decode cX9_needOf 0 = .ok (.aload_n 0, 1) := by decide +kernel
theorem dX9_needOf_1 : decode cX9_needOf 1 = .ok (.getfield 85, 3) := by decide +kernel
theorem dX9_needOf_4 : decode cX9_needOf 4 = .ok (.ifCond .lt 10, 3) := by decide +kernel
theorem dX9_needOf_7 : decode cX9_needOf 7 = .ok (.aload_n 0, 1) := by decide +kernel
theorem dX9_needOf_8 : decode cX9_needOf 8 = .ok (.getfield 85, 3) := by decide +kernel
theorem dX9_needOf_11 : decode cX9_needOf 11 = .ok (.goto 32, 3) := by decide +kernel
theorem dX9_needOf_14 : decode cX9_needOf 14 = .ok (.iload_n 1, 1) := by decide +kernel
theorem dX9_needOf_15 : decode cX9_needOf 15 = .ok (.aload_n 0, 1) := by decide +kernel
theorem dX9_needOf_16 : decode cX9_needOf 16 = .ok (.getfield 82, 3) := by decide +kernel
theorem dX9_needOf_19 : decode cX9_needOf 19 = .ok (.if_icmp .ne 10, 3) := by decide +kernel
theorem dX9_needOf_22 : decode cX9_needOf 22 = .ok (.aload_n 0, 1) := by decide +kernel
theorem dX9_needOf_23 : decode cX9_needOf 23 = .ok (.getfield 356, 3) := by decide +kernel
theorem dX9_needOf_26 : decode cX9_needOf 26 = .ok (.goto 17, 3) := by decide +kernel
theorem dX9_needOf_29 : decode cX9_needOf 29 = .ok (.aload_n 0, 1) := by decide +kernel
theorem dX9_needOf_30 : decode cX9_needOf 30 = .ok (.getfield 39, 3) := by decide +kernel
theorem dX9_needOf_33 : decode cX9_needOf 33 = .ok (.bipush 10, 2) := by decide +kernel
theorem dX9_needOf_35 : decode cX9_needOf 35 = .ok (.aload_n 0, 1) := by decide +kernel
theorem dX9_needOf_36 : decode cX9_needOf 36 = .ok (.getfield 239, 3) := by decide +kernel
theorem dX9_needOf_39 : decode cX9_needOf 39 = .ok (.imul, 1) := by decide +kernel
theorem dX9_needOf_40 : decode cX9_needOf 40 = .ok (.iload_n 1, 1) := by decide +kernel
theorem dX9_needOf_41 : decode cX9_needOf 41 = .ok (.iadd, 1) := by decide +kernel
theorem dX9_needOf_42 : decode cX9_needOf 42 = .ok (.iaload, 1) := by decide +kernel
theorem dX9_needOf_43 : decode cX9_needOf 43 = .ok (.ireturn, 1) := by decide +kernel
set_option maxRecDepth 20000 in
theorem ggX9_leadingTo_X9_threads : GoodIn wsX9_leadingTo wsX9_threads := goodIn_r _ [5, 6, 7, 13, 14, 15, 16, 17, 18, 19, 20, 21, 22, 23, 24, 25, 26, 27, 28, 29, 30, 31, 32, 33, 34, 35, 36, 37, 38, 39, 40, 41, 42, 43, 44, 45, 46, 47, 48, 49, 50, 51, 52, 53, 54, 55, 56, 57, 58, 59, 60, 61, 62, 63, 64, 65, 66, 67, 68, 69, 70, 71, 72, 73, 74, 75, 76] rfl rfl
set_option maxRecDepth 20000 in
theorem gX9_leadingTo_X9_threads : GoodIn wsX9_leadingTo (wsV RX9 350 RX9 yX9_threads wsX9_threads) := goodIn_app (goodIn_of _ (by decide +kernel)) ggX9_leadingTo_X9_threads
set_option maxRecDepth 20000 in
theorem ggX9_leadingTo_X9_toOf : GoodIn wsX9_leadingTo wsX9_toOf := goodIn_r _ [11, 12, 7, 13, 14, 15, 16, 17, 18, 19, 20, 21, 22, 23, 24, 25, 26, 27, 28, 29, 30, 31, 32, 33, 34, 35, 36, 37, 38, 39, 40, 41, 42, 43, 44, 45, 46, 47, 48, 49, 50, 51, 52, 53, 54, 55, 56, 57, 58, 59, 60, 61, 62, 63, 64, 65, 66, 67, 68, 69, 70, 71, 72, 73, 74, 75, 76] rfl rfl
set_option maxRecDepth 20000 in
theorem gX9_leadingTo_X9_toOf : GoodIn wsX9_leadingTo (wsV RX9 315 RX9 yX9_toOf wsX9_toOf) := goodIn_app (goodIn_of _ (by decide +kernel)) ggX9_leadingTo_X9_toOf
theorem dX9_leadingTo_0 : decode cX9_leadingTo 0 = .ok (.iconst 0, 1) := by decide +kernel
theorem dX9_leadingTo_1 : decode cX9_leadingTo 1 = .ok (.istore_n 2, 1) := by decide +kernel
theorem dX9_leadingTo_2 : decode cX9_leadingTo 2 = .ok (.iconst 0, 1) := by decide +kernel
theorem dX9_leadingTo_3 : decode cX9_leadingTo 3 = .ok (.istore_n 3, 1) := by decide +kernel
theorem dX9_leadingTo_4 : decode cX9_leadingTo 4 = .ok (.iload_n 3, 1) := by decide +kernel
theorem dX9_leadingTo_5 : decode cX9_leadingTo 5 = .ok (.aload_n 0, 1) := by decide +kernel
theorem dX9_leadingTo_6 : decode cX9_leadingTo 6 = .ok (.invokevirtual 350, 3) := by decide +kernel
theorem dX9_leadingTo_9 : decode cX9_leadingTo 9 = .ok (.if_icmp .ge 24, 3) := by decide +kernel
theorem dX9_leadingTo_12 : decode cX9_leadingTo 12 = .ok (.aload_n 0, 1) := by decide +kernel
theorem dX9_leadingTo_13 : decode cX9_leadingTo 13 = .ok (.iload_n 3, 1) := by decide +kernel
theorem dX9_leadingTo_14 : decode cX9_leadingTo 14 = .ok (.invokevirtual 315, 3) := by decide +kernel
theorem dX9_leadingTo_17 : decode cX9_leadingTo 17 = .ok (.iload_n 1, 1) := by decide +kernel
theorem dX9_leadingTo_18 : decode cX9_leadingTo 18 = .ok (.if_icmp .ne 9, 3) := by decide +kernel
theorem dX9_leadingTo_21 : decode cX9_leadingTo 21 = .ok (.iload_n 2, 1) := by decide +kernel
theorem dX9_leadingTo_22 : decode cX9_leadingTo 22 = .ok (.iconst 1, 1) := by decide +kernel
theorem dX9_leadingTo_23 : decode cX9_leadingTo 23 = .ok (.iload_n 3, 1) := by decide +kernel
theorem dX9_leadingTo_24 : decode cX9_leadingTo 24 = .ok (.ishl, 1) := by decide +kernel
theorem dX9_leadingTo_25 : decode cX9_leadingTo 25 = .ok (.ior, 1) := by decide +kernel
theorem dX9_leadingTo_26 : decode cX9_leadingTo 26 = .ok (.istore_n 2, 1) := by decide +kernel
theorem dX9_leadingTo_27 : decode cX9_leadingTo 27 = .ok (.iinc 3 1, 3) := by decide +kernel
theorem dX9_leadingTo_30 : decode cX9_leadingTo 30 = .ok (.goto (-26), 3) := by decide +kernel
theorem dX9_leadingTo_33 : decode cX9_leadingTo 33 = .ok (.iload_n 2, 1) := by decide +kernel
theorem dX9_leadingTo_34 : decode cX9_leadingTo 34 = .ok (.ireturn, 1) := by decide +kernel
set_option maxRecDepth 20000 in
theorem ggX9_leadingFrom_X9_threads : GoodIn wsX9_leadingFrom wsX9_threads := goodIn_r _ [5, 6, 7, 13, 14, 15, 16, 17, 18, 19, 20, 21, 22, 23, 24, 25, 26, 27, 28, 29, 30, 31, 32, 33, 34, 35, 36, 37, 38, 39, 40, 41, 42, 43, 44, 45, 46, 47, 48, 49, 50, 51, 52, 53, 54, 55, 56, 57, 58, 59, 60, 61, 62, 63, 64, 65, 66, 67, 68, 69, 70, 71, 72, 73, 74, 75, 76] rfl rfl
set_option maxRecDepth 20000 in
theorem gX9_leadingFrom_X9_threads : GoodIn wsX9_leadingFrom (wsV RX9 350 RX9 yX9_threads wsX9_threads) := goodIn_app (goodIn_of _ (by decide +kernel)) ggX9_leadingFrom_X9_threads
set_option maxRecDepth 20000 in
theorem ggX9_leadingFrom_X9_fromOf : GoodIn wsX9_leadingFrom wsX9_fromOf := goodIn_r _ [11, 12, 7, 13, 14, 15, 16, 17, 18, 19, 20, 21, 22, 23, 24, 25, 26, 27, 28, 29, 30, 31, 32, 33, 34, 35, 36, 37, 38, 39, 40, 41, 42, 43, 44, 45, 46, 47, 48, 49, 50, 51, 52, 53, 54, 55, 56, 57, 58, 59, 60, 61, 62, 63, 64, 65, 66, 67, 68, 69, 70, 71, 72, 73, 74, 75, 76] rfl rfl
set_option maxRecDepth 20000 in
theorem gX9_leadingFrom_X9_fromOf : GoodIn wsX9_leadingFrom (wsV RX9 327 RX9 yX9_fromOf wsX9_fromOf) := goodIn_app (goodIn_of _ (by decide +kernel)) ggX9_leadingFrom_X9_fromOf
theorem dX9_leadingFrom_0 : decode cX9_leadingFrom 0 = .ok (.iconst 0, 1) := by decide +kernel
theorem dX9_leadingFrom_1 : decode cX9_leadingFrom 1 = .ok (.istore_n 2, 1) := by decide +kernel
theorem dX9_leadingFrom_2 : decode cX9_leadingFrom 2 = .ok (.iconst 0, 1) := by decide +kernel
theorem dX9_leadingFrom_3 : decode cX9_leadingFrom 3 = .ok (.istore_n 3, 1) := by decide +kernel
theorem dX9_leadingFrom_4 : decode cX9_leadingFrom 4 = .ok (.iload_n 3, 1) := by decide +kernel
theorem dX9_leadingFrom_5 : decode cX9_leadingFrom 5 = .ok (.aload_n 0, 1) := by decide +kernel
theorem dX9_leadingFrom_6 : decode cX9_leadingFrom 6 = .ok (.invokevirtual 350, 3) := by decide +kernel
theorem dX9_leadingFrom_9 : decode cX9_leadingFrom 9 = .ok (.if_icmp .ge 24, 3) := by decide +kernel
theorem dX9_leadingFrom_12 : decode cX9_leadingFrom 12 = .ok (.aload_n 0, 1) := by decide +kernel
theorem dX9_leadingFrom_13 : decode cX9_leadingFrom 13 = .ok (.iload_n 3, 1) := by decide +kernel
theorem dX9_leadingFrom_14 : decode cX9_leadingFrom 14 = .ok (.invokevirtual 327, 3) := by decide +kernel
theorem dX9_leadingFrom_17 : decode cX9_leadingFrom 17 = .ok (.iload_n 1, 1) := by decide +kernel
theorem dX9_leadingFrom_18 : decode cX9_leadingFrom 18 = .ok (.if_icmp .ne 9, 3) := by decide +kernel
theorem dX9_leadingFrom_21 : decode cX9_leadingFrom 21 = .ok (.iload_n 2, 1) := by decide +kernel
theorem dX9_leadingFrom_22 : decode cX9_leadingFrom 22 = .ok (.iconst 1, 1) := by decide +kernel
theorem dX9_leadingFrom_23 : decode cX9_leadingFrom 23 = .ok (.iload_n 3, 1) := by decide +kernel
theorem dX9_leadingFrom_24 : decode cX9_leadingFrom 24 = .ok (.ishl, 1) := by decide +kernel
theorem dX9_leadingFrom_25 : decode cX9_leadingFrom 25 = .ok (.ior, 1) := by decide +kernel
theorem dX9_leadingFrom_26 : decode cX9_leadingFrom 26 = .ok (.istore_n 2, 1) := by decide +kernel
theorem dX9_leadingFrom_27 : decode cX9_leadingFrom 27 = .ok (.iinc 3 1, 3) := by decide +kernel
theorem dX9_leadingFrom_30 : decode cX9_leadingFrom 30 = .ok (.goto (-26), 3) := by decide +kernel
theorem dX9_leadingFrom_33 : decode cX9_leadingFrom 33 = .ok (.iload_n 2, 1) := by decide +kernel
theorem dX9_leadingFrom_34 : decode cX9_leadingFrom 34 = .ok (.ireturn, 1) := by decide +kernel
set_option maxRecDepth 20000 in
theorem ggX9_startAnew_X9_layTold : GoodIn wsX9_startAnew wsX9_layTold := goodIn_r _ [10, 11, 12, 13, 14, 15, 16, 17, 9, 18, 19, 20, 21, 22, 23, 24, 25, 26, 27, 28, 29, 30, 31, 32, 33, 34, 35, 36, 37, 38, 39, 40, 41, 42, 43, 44, 45, 46, 47, 48, 49, 50, 51, 52, 53, 54, 55, 56, 57, 58, 59, 60, 61, 62, 63, 64, 65, 66, 67, 68, 69, 70, 71, 72, 73, 74, 75, 76, 77, 78, 79, 80, 81, 82, 83] rfl rfl
set_option maxRecDepth 20000 in
theorem gX9_startAnew_X9_layTold : GoodIn wsX9_startAnew (wsV RX9 365 RX9 yX9_layTold wsX9_layTold) := goodIn_app (goodIn_of _ (by decide +kernel)) ggX9_startAnew_X9_layTold
theorem dX9_startAnew_0 : decode cX9_startAnew 0 = .ok (.aload_n 0, 1) := by decide +kernel
theorem dX9_startAnew_1 : decode cX9_startAnew 1 = .ok (.invokevirtual 365, 3) := by decide +kernel
theorem dX9_startAnew_4 : decode cX9_startAnew 4 = .ok (.aload_n 0, 1) := by decide +kernel
theorem dX9_startAnew_5 : decode cX9_startAnew 5 = .ok (.iconst 0, 1) := by decide +kernel
theorem dX9_startAnew_6 : decode cX9_startAnew 6 = .ok (.putfield 368, 3) := by decide +kernel
theorem dX9_startAnew_9 : decode cX9_startAnew 9 = .ok (.aload_n 0, 1) := by decide +kernel
theorem dX9_startAnew_10 : decode cX9_startAnew 10 = .ok (.iconst 0, 1) := by decide +kernel
theorem dX9_startAnew_11 : decode cX9_startAnew 11 = .ok (.putfield 371, 3) := by decide +kernel
theorem dX9_startAnew_14 : decode cX9_startAnew 14 = .ok (.aload_n 0, 1) := by decide +kernel
theorem dX9_startAnew_15 : decode cX9_startAnew 15 = .ok (.iconst 0, 1) := by decide +kernel
theorem dX9_startAnew_16 : decode cX9_startAnew 16 = .ok (.putfield 374, 3) := by decide +kernel
theorem dX9_startAnew_19 : decode cX9_startAnew 19 = .ok (.aload_n 0, 1) := by decide +kernel
theorem dX9_startAnew_20 : decode cX9_startAnew 20 = .ok (.iconst 0, 1) := by decide +kernel
theorem dX9_startAnew_21 : decode cX9_startAnew 21 = .ok (.putfield 377, 3) := by decide +kernel
theorem dX9_startAnew_24 : decode cX9_startAnew 24 = .ok (.iconst 0, 1) := by decide +kernel
theorem dX9_startAnew_25 : decode cX9_startAnew 25 = .ok (.istore_n 1, 1) := by decide +kernel
theorem dX9_startAnew_26 : decode cX9_startAnew 26 = .ok (.iload_n 1, 1) := by decide +kernel
theorem dX9_startAnew_27 : decode cX9_startAnew 27 = .ok (.iconst 3, 1) := by decide +kernel
theorem dX9_startAnew_28 : decode cX9_startAnew 28 = .ok (.if_icmp .ge 16, 3) := by decide +kernel
theorem dX9_startAnew_31 : decode cX9_startAnew 31 = .ok (.aload_n 0, 1) := by decide +kernel
theorem dX9_startAnew_32 : decode cX9_startAnew 32 = .ok (.getfield 128, 3) := by decide +kernel
theorem dX9_startAnew_35 : decode cX9_startAnew 35 = .ok (.iload_n 1, 1) := by decide +kernel
theorem dX9_startAnew_36 : decode cX9_startAnew 36 = .ok (.iconst 0, 1) := by decide +kernel
theorem dX9_startAnew_37 : decode cX9_startAnew 37 = .ok (.bastore, 1) := by decide +kernel
theorem dX9_startAnew_38 : decode cX9_startAnew 38 = .ok (.iinc 1 1, 3) := by decide +kernel
theorem dX9_startAnew_41 : decode cX9_startAnew 41 = .ok (.goto (-15), 3) := by decide +kernel
theorem dX9_startAnew_44 : decode cX9_startAnew 44 = .ok (.return_, 1) := by decide +kernel
set_option maxRecDepth 20000 in
theorem ggX9_layTold_X9_threads : GoodIn wsX9_layTold wsX9_threads := goodIn_r _ [9, 10, 3, 11, 12, 13, 14, 15, 16, 17, 18, 19, 20, 21, 22, 23, 24, 25, 26, 27, 28, 29, 30, 31, 32, 33, 34, 35, 36, 37, 38, 39, 40, 41, 42, 43, 44, 45, 46, 47, 48, 49, 50, 51, 52, 53, 54, 55, 56, 57, 58, 59, 60, 61, 62, 63, 64, 65, 66, 67, 68, 69, 70, 71, 72, 73, 74] rfl rfl
set_option maxRecDepth 20000 in
theorem gX9_layTold_X9_threads : GoodIn wsX9_layTold (wsV RX9 350 RX9 yX9_threads wsX9_threads) := goodIn_app (goodIn_of _ (by decide +kernel)) ggX9_layTold_X9_threads
theorem dX9_layTold_0 : decode cX9_layTold 0 = .ok (.iconst 0, 1) := by decide +kernel
theorem dX9_layTold_1 : decode cX9_layTold 1 = .ok (.istore_n 1, 1) := by decide +kernel
theorem dX9_layTold_2 : decode cX9_layTold 2 = .ok (.iload_n 1, 1) := by decide +kernel
theorem dX9_layTold_3 : decode cX9_layTold 3 = .ok (.bipush 16, 2) := by decide +kernel
theorem dX9_layTold_5 : decode cX9_layTold 5 = .ok (.if_icmp .ge 16, 3) := by decide +kernel
theorem dX9_layTold_8 : decode cX9_layTold 8 = .ok (.aload_n 0, 1) := by decide +kernel
theorem dX9_layTold_9 : decode cX9_layTold 9 = .ok (.getfield 76, 3) := by decide +kernel
theorem dX9_layTold_12 : decode cX9_layTold 12 = .ok (.iload_n 1, 1) := by decide +kernel
theorem dX9_layTold_13 : decode cX9_layTold 13 = .ok (.iconst 0, 1) := by decide +kernel
theorem dX9_layTold_14 : decode cX9_layTold 14 = .ok (.iastore, 1) := by decide +kernel
theorem dX9_layTold_15 : decode cX9_layTold 15 = .ok (.iinc 1 1, 3) := by decide +kernel
theorem dX9_layTold_18 : decode cX9_layTold 18 = .ok (.goto (-16), 3) := by decide +kernel
theorem dX9_layTold_21 : decode cX9_layTold 21 = .ok (.aload_n 0, 1) := by decide +kernel
theorem dX9_layTold_22 : decode cX9_layTold 22 = .ok (.getfield 76, 3) := by decide +kernel
theorem dX9_layTold_25 : decode cX9_layTold 25 = .ok (.iconst 1, 1) := by decide +kernel
theorem dX9_layTold_26 : decode cX9_layTold 26 = .ok (.iconst 1, 1) := by decide +kernel
theorem dX9_layTold_27 : decode cX9_layTold 27 = .ok (.aload_n 0, 1) := by decide +kernel
theorem dX9_layTold_28 : decode cX9_layTold 28 = .ok (.invokevirtual 350, 3) := by decide +kernel
theorem dX9_layTold_31 : decode cX9_layTold 31 = .ok (.ishl, 1) := by decide +kernel
theorem dX9_layTold_32 : decode cX9_layTold 32 = .ok (.iconst 1, 1) := by decide +kernel
theorem dX9_layTold_33 : decode cX9_layTold 33 = .ok (.isub, 1) := by decide +kernel
theorem dX9_layTold_34 : decode cX9_layTold 34 = .ok (.iastore, 1) := by decide +kernel
theorem dX9_layTold_35 : decode cX9_layTold 35 = .ok (.iconst 0, 1) := by decide +kernel
theorem dX9_layTold_36 : decode cX9_layTold 36 = .ok (.istore_n 1, 1) := by decide +kernel
theorem dX9_layTold_37 : decode cX9_layTold 37 = .ok (.iload_n 1, 1) := by decide +kernel
theorem dX9_layTold_38 : decode cX9_layTold 38 = .ok (.aload_n 0, 1) := by decide +kernel
theorem dX9_layTold_39 : decode cX9_layTold 39 = .ok (.invokevirtual 350, 3) := by decide +kernel
theorem dX9_layTold_42 : decode cX9_layTold 42 = .ok (.if_icmp .ge 31, 3) := by decide +kernel
theorem dX9_layTold_45 : decode cX9_layTold 45 = .ok (.aload_n 0, 1) := by decide +kernel
theorem dX9_layTold_46 : decode cX9_layTold 46 = .ok (.getfield 76, 3) := by decide +kernel
theorem dX9_layTold_49 : decode cX9_layTold 49 = .ok (.iconst 2, 1) := by decide +kernel
theorem dX9_layTold_50 : decode cX9_layTold 50 = .ok (.iload_n 1, 1) := by decide +kernel
theorem dX9_layTold_51 : decode cX9_layTold 51 = .ok (.iadd, 1) := by decide +kernel
theorem dX9_layTold_52 : decode cX9_layTold 52 = .ok (.aload_n 0, 1) := by decide +kernel
theorem dX9_layTold_53 : decode cX9_layTold 53 = .ok (.getfield 48, 3) := by decide +kernel
theorem dX9_layTold_56 : decode cX9_layTold 56 = .ok (.bipush 12, 2) := by decide +kernel
theorem dX9_layTold_58 : decode cX9_layTold 58 = .ok (.aload_n 0, 1) := by decide +kernel
theorem dX9_layTold_59 : decode cX9_layTold 59 = .ok (.getfield 239, 3) := by decide +kernel
theorem dX9_layTold_62 : decode cX9_layTold 62 = .ok (.imul, 1) := by decide +kernel
theorem dX9_layTold_63 : decode cX9_layTold 63 = .ok (.iload_n 1, 1) := by decide +kernel
theorem dX9_layTold_64 : decode cX9_layTold 64 = .ok (.iadd, 1) := by decide +kernel
theorem dX9_layTold_65 : decode cX9_layTold 65 = .ok (.iaload, 1) := by decide +kernel
theorem dX9_layTold_66 : decode cX9_layTold 66 = .ok (.iastore, 1) := by decide +kernel
theorem dX9_layTold_67 : decode cX9_layTold 67 = .ok (.iinc 1 1, 3) := by decide +kernel
theorem dX9_layTold_70 : decode cX9_layTold 70 = .ok (.goto (-33), 3) := by decide +kernel
theorem dX9_layTold_73 : decode cX9_layTold 73 = .ok (.aload_n 0, 1) := by decide +kernel
theorem dX9_layTold_74 : decode cX9_layTold 74 = .ok (.getfield 76, 3) := by decide +kernel
theorem dX9_layTold_77 : decode cX9_layTold 77 = .ok (.bipush 15, 2) := by decide +kernel
theorem dX9_layTold_79 : decode cX9_layTold 79 = .ok (.aload_n 0, 1) := by decide +kernel
theorem dX9_layTold_80 : decode cX9_layTold 80 = .ok (.getfield 33, 3) := by decide +kernel
theorem dX9_layTold_83 : decode cX9_layTold 83 = .ok (.aload_n 0, 1) := by decide +kernel
theorem dX9_layTold_84 : decode cX9_layTold 84 = .ok (.getfield 239, 3) := by decide +kernel
theorem dX9_layTold_87 : decode cX9_layTold 87 = .ok (.iaload, 1) := by decide +kernel
theorem dX9_layTold_88 : decode cX9_layTold 88 = .ok (.iastore, 1) := by decide +kernel
theorem dX9_layTold_89 : decode cX9_layTold 89 = .ok (.return_, 1) := by decide +kernel
set_option maxRecDepth 20000 in
theorem ggX9_point_X9_isPoint : GoodIn wsX9_point wsX9_isPoint := goodIn_r _ [6, 7, 8, 9, 5, 10, 11, 12, 13, 14, 15, 51, 52, 53, 54, 55, 56, 57, 58, 59, 60, 61, 62, 63, 64, 65, 66, 67, 68, 69, 70, 71, 72, 73, 74, 75, 76, 77, 78, 79, 80, 81, 82, 83, 84, 85, 86, 87, 88, 89, 90, 91, 92, 93, 94, 95, 96, 97, 98, 99, 100, 101, 102, 103, 104, 105, 106, 107, 108, 109, 110, 111, 112, 113, 114] rfl rfl
set_option maxRecDepth 20000 in
theorem gX9_point_X9_isPoint : GoodIn wsX9_point (wsV RX9 353 RX9 yX9_isPoint wsX9_isPoint) := goodIn_app (goodIn_of _ (by decide +kernel)) ggX9_point_X9_isPoint
set_option maxRecDepth 20000 in
theorem ggX9_point_X9_isFact : GoodIn wsX9_point wsX9_isFact := goodIn_r _ [19, 20, 12, 2, 3, 4, 5, 6, 7, 8, 9, 10, 11, 13, 14, 15, 51, 52, 53, 54, 55, 56, 57, 58, 59, 60, 61, 62, 63, 64, 65, 66, 67, 68, 69, 70, 71, 72, 73, 74, 75, 76, 77, 78, 79, 80, 81, 82, 83, 84, 85, 86, 87, 88, 89, 90, 91, 92, 93, 94, 95, 96, 97, 98, 99, 100, 101, 102, 103, 104, 105, 106, 107, 108, 109, 110, 111, 112, 113, 114] rfl rfl
set_option maxRecDepth 20000 in
theorem gX9_point_X9_isFact : GoodIn wsX9_point (wsV RX9 359 RX9 yX9_isFact wsX9_isFact) := goodIn_app (goodIn_of _ (by decide +kernel)) ggX9_point_X9_isFact
set_option maxRecDepth 20000 in
theorem ggX9_point_X9_needOf : GoodIn wsX9_point wsX9_needOf := goodIn_r _ [24, 25, 26, 27, 20, 12, 51, 52, 53, 54, 55, 56, 57, 58, 59, 60, 61, 62, 63, 64, 65, 66, 67, 68, 69, 70, 71, 72, 73, 74, 75, 76, 77, 78, 79, 80, 81, 82, 83, 84, 85, 86, 87, 88, 89, 90, 91, 92, 93, 94, 95, 96, 97, 98, 99, 100, 101, 102, 103, 104, 105, 106, 107, 108, 109, 110, 111, 112, 113, 114] rfl rfl
set_option maxRecDepth 20000 in
theorem gX9_point_X9_needOf : GoodIn wsX9_point (wsV RX9 333 RX9 yX9_needOf wsX9_needOf) := goodIn_app (goodIn_of _ (by decide +kernel)) ggX9_point_X9_needOf
set_option maxRecDepth 20000 in
theorem ggX9_point_X9_leadingTo : GoodIn wsX9_point wsX9_leadingTo := goodIn_r _ [31, 32, 33, 34, 5, 35, 36, 12, 37, 38, 39, 40, 41, 51, 52, 53, 54, 55, 56, 57, 58, 59, 60, 61, 62, 63, 64, 65, 66, 67, 68, 69, 70, 71, 72, 73, 74, 75, 76, 77, 78, 79, 80, 81, 82, 83, 84, 85, 86, 87, 88, 89, 90, 91, 92, 93, 94, 95, 96, 97, 98, 99, 100, 101, 102, 103, 104, 105, 106, 107, 108, 109, 110, 111, 112, 113, 114] rfl rfl
set_option maxRecDepth 20000 in
theorem gX9_point_X9_leadingTo : GoodIn wsX9_point (wsV RX9 318 RX9 yX9_leadingTo wsX9_leadingTo) := goodIn_app (goodIn_of _ (by decide +kernel)) ggX9_point_X9_leadingTo
set_option maxRecDepth 20000 in
theorem ggX9_point_X9_leadingFrom : GoodIn wsX9_point wsX9_leadingFrom := goodIn_r _ [45, 32, 33, 34, 5, 35, 36, 12, 46, 47, 48, 49, 50, 51, 52, 53, 54, 55, 56, 57, 58, 59, 60, 61, 62, 63, 64, 65, 66, 67, 68, 69, 70, 71, 72, 73, 74, 75, 76, 77, 78, 79, 80, 81, 82, 83, 84, 85, 86, 87, 88, 89, 90, 91, 92, 93, 94, 95, 96, 97, 98, 99, 100, 101, 102, 103, 104, 105, 106, 107, 108, 109, 110, 111, 112, 113, 114] rfl rfl
set_option maxRecDepth 20000 in
theorem gX9_point_X9_leadingFrom : GoodIn wsX9_point (wsV RX9 330 RX9 yX9_leadingFrom wsX9_leadingFrom) := goodIn_app (goodIn_of _ (by decide +kernel)) ggX9_point_X9_leadingFrom
theorem dX9_point_0 : decode cX9_point 0 = .ok (.aload_n 0, 1) := by decide +kernel
theorem dX9_point_1 : decode cX9_point 1 = .ok (.iload_n 1, 1) := by decide +kernel
theorem dX9_point_2 : decode cX9_point 2 = .ok (.invokevirtual 353, 3) := by decide +kernel
theorem dX9_point_5 : decode cX9_point 5 = .ok (.ifCond .ne 5, 3) := by decide +kernel
theorem dX9_point_8 : decode cX9_point 8 = .ok (.iconst (-1), 1) := by decide +kernel
theorem dX9_point_9 : decode cX9_point 9 = .ok (.ireturn, 1) := by decide +kernel
theorem dX9_point_10 : decode cX9_point 10 = .ok (.iload_n 2, 1) := by decide +kernel
theorem dX9_point_11 : decode cX9_point 11 = .ok (.tableswitch 76 0 4 #[33, 47, 53, 64, 70], 33) := by decide +kernel
theorem dX9_point_44 : decode cX9_point 44 = .ok (.aload_n 0, 1) := by decide +kernel
theorem dX9_point_45 : decode cX9_point 45 = .ok (.iload_n 1, 1) := by decide +kernel
theorem dX9_point_46 : decode cX9_point 46 = .ok (.invokevirtual 359, 3) := by decide +kernel
theorem dX9_point_49 : decode cX9_point 49 = .ok (.ifCond .eq 7, 3) := by decide +kernel
theorem dX9_point_52 : decode cX9_point 52 = .ok (.iconst 1, 1) := by decide +kernel
theorem dX9_point_53 : decode cX9_point 53 = .ok (.goto 4, 3) := by decide +kernel
theorem dX9_point_56 : decode cX9_point 56 = .ok (.iconst 0, 1) := by decide +kernel
theorem dX9_point_57 : decode cX9_point 57 = .ok (.ireturn, 1) := by decide +kernel
theorem dX9_point_58 : decode cX9_point 58 = .ok (.aload_n 0, 1) := by decide +kernel
theorem dX9_point_59 : decode cX9_point 59 = .ok (.iload_n 1, 1) := by decide +kernel
theorem dX9_point_60 : decode cX9_point 60 = .ok (.invokevirtual 333, 3) := by decide +kernel
theorem dX9_point_63 : decode cX9_point 63 = .ok (.ireturn, 1) := by decide +kernel
theorem dX9_point_64 : decode cX9_point 64 = .ok (.aload_n 0, 1) := by decide +kernel
theorem dX9_point_65 : decode cX9_point 65 = .ok (.getfield 76, 3) := by decide +kernel
theorem dX9_point_68 : decode cX9_point 68 = .ok (.iconst 0, 1) := by decide +kernel
theorem dX9_point_69 : decode cX9_point 69 = .ok (.iaload, 1) := by decide +kernel
theorem dX9_point_70 : decode cX9_point 70 = .ok (.iload_n 1, 1) := by decide +kernel
theorem dX9_point_71 : decode cX9_point 71 = .ok (.ishr, 1) := by decide +kernel
theorem dX9_point_72 : decode cX9_point 72 = .ok (.iconst 1, 1) := by decide +kernel
theorem dX9_point_73 : decode cX9_point 73 = .ok (.iand, 1) := by decide +kernel
theorem dX9_point_74 : decode cX9_point 74 = .ok (.ireturn, 1) := by decide +kernel
theorem dX9_point_75 : decode cX9_point 75 = .ok (.aload_n 0, 1) := by decide +kernel
theorem dX9_point_76 : decode cX9_point 76 = .ok (.iload_n 1, 1) := by decide +kernel
theorem dX9_point_77 : decode cX9_point 77 = .ok (.invokevirtual 318, 3) := by decide +kernel
theorem dX9_point_80 : decode cX9_point 80 = .ok (.ireturn, 1) := by decide +kernel
theorem dX9_point_81 : decode cX9_point 81 = .ok (.aload_n 0, 1) := by decide +kernel
theorem dX9_point_82 : decode cX9_point 82 = .ok (.iload_n 1, 1) := by decide +kernel
theorem dX9_point_83 : decode cX9_point 83 = .ok (.invokevirtual 330, 3) := by decide +kernel
theorem dX9_point_86 : decode cX9_point 86 = .ok (.ireturn, 1) := by decide +kernel
theorem dX9_point_87 : decode cX9_point 87 = .ok (.iconst (-1), 1) := by decide +kernel
theorem dX9_point_88 : decode cX9_point 88 = .ok (.ireturn, 1) := by decide +kernel
theorem in_X9_threads_X9 : ∀ w ∈ wsX90, w ∈ wsX9_threads := fun _ h => List.mem_cons_of_mem _ (List.mem_append_right _ h)
theorem in_X9_layTold_X9 : ∀ w ∈ wsX90, w ∈ wsX9_layTold := fun _ h => List.mem_cons_of_mem _ (List.mem_append_right _ h)
theorem in_X9_startAnew_X9 : ∀ w ∈ wsX90, w ∈ wsX9_startAnew := fun _ h => List.mem_cons_of_mem _ (List.mem_append_right _ h)
theorem in_X9_suit_X9 : ∀ w ∈ wsX90, w ∈ wsX9_suit := fun _ h => List.mem_cons_of_mem _ (List.mem_append_right _ h)
theorem in_X9_fault_X9 : ∀ w ∈ wsX90, w ∈ wsX9_fault := fun _ h => List.mem_cons_of_mem _ (List.mem_append_right _ h)
theorem in_X9_many_X9 : ∀ w ∈ wsX90, w ∈ wsX9_many := fun _ h => List.mem_cons_of_mem _ (List.mem_append_right _ h)
theorem in_X9_isFact_X9 : ∀ w ∈ wsX90, w ∈ wsX9_isFact := fun _ h => List.mem_cons_of_mem _ (List.mem_append_right _ h)
theorem in_X9_fromOf_X9 : ∀ w ∈ wsX90, w ∈ wsX9_fromOf := fun _ h => List.mem_cons_of_mem _ (List.mem_append_right _ h)
theorem in_X9_toOf_X9 : ∀ w ∈ wsX90, w ∈ wsX9_toOf := fun _ h => List.mem_cons_of_mem _ (List.mem_append_right _ h)
theorem in_X9_needOf_X9 : ∀ w ∈ wsX90, w ∈ wsX9_needOf := fun _ h => List.mem_cons_of_mem _ (List.mem_append_right _ h)
theorem in_X9_point_X9 : ∀ w ∈ wsX90, w ∈ wsX9_point := fun _ h => List.mem_cons_of_mem _ (List.mem_append_right _ h)
set_option maxHeartbeats 4000000 in
set_option maxRecDepth 100000 in
theorem s_X9_threads_0 (l : Launch) (B0 : Nat) (adK adV : Nat → Nat) (D : va_G) (cy : Nat → ClassId) (ad : Nat → Nat) (fr0 : Nat → va_E) (c_text : Nat → Int32) (m_taped : Int32) (m_size : Int32) (m_faultKind : Int32) (m_faultPlace : Int32) (m_at : Int32) (m_end : Int32) (m_token : Int32) (m_number : Int32) (m_name : Int64) (c_points : Nat → Int32) (c_strands : Nat → Int32) (c_units : Nat → Int32) (c_told : Nat → Int32) (c_ruleFrom : Nat → Int32) (c_ruleTo : Nat → Int32) (c_code : Nat → Int32) (c_eWhat : Nat → Int32) (c_eSign : Nat → Int32) (m_bank : Int32) (m_rb : Int32) (m_codes : Int32) (m_within : Int32) (m_piled : Int32) (m_unitsInRule : Int32) (m_askStrand : Int32) (m_askTied : Int32) (m_thoughtClaim : Int32) (m_thoughtNeed : Int32) (m_thoughtAll : Int32) (c_roundOf : Nat → Int32) (m_acts : Int32) (m_undone : Int32) (m_laid : Int32) (m_firstMove : Int32) (m_seens : Int32) (m_time : Int32) (m_waysNow : Int32) (m_fitting : Int32) (f : Nat → va_E) (hT : TYm ad cy fr0 c_text m_taped m_size m_faultKind m_faultPlace m_at m_end m_token m_number m_name c_points c_strands c_units c_told c_ruleFrom c_ruleTo c_code c_eWhat c_eSign m_bank m_rb m_codes m_within m_piled m_unitsInRule m_askStrand m_askTied m_thoughtClaim m_thoughtNeed m_thoughtAll c_roundOf m_acts m_undone m_laid m_firstMove m_seens m_time m_waysNow m_fitting f) (sz : Nat) : TtI l yX9_threads wsX9_threads 0 0 [.ref (ad 148)] B0 adK adV D cy ad f sz (fun (r : Int32) (g : Nat → va_E) => (0 ≤ r.toInt ∧ r.toInt ≤ 12) ∧ (f = g)) := by
  refine TtI.of (cc := cX9_threads) (maxL := 1) (ty := .int) (own := RX9) (by decide) rfl (Nat.le_of_ble_eq_true rfl) rfl ?_
  intro p e s m below meth c A ls hx hb hr hml hts hown hlk hK hE hP hD hS hA hAB hl
  have hl : lv_has ls 1 [(0, .ref (ad 148))] := hl
  refine st0 (fun H locs hP hS => ?_) hP hS
  refine lv_aload_n hx hb dX9_threads_0 rfl (lv_at hl 0 rfl) ?_
  obtain ⟨e16, h1, h2, h3, h4, h5, h6, h7, h8, h9, h10, h11, h12, h13, h14, h15⟩ := (show okX9 ad m_taped m_size m_faultKind m_faultPlace m_at m_end m_token m_number m_name m_bank m_rb m_codes m_within m_piled m_unitsInRule m_askStrand m_askTied m_thoughtClaim m_thoughtNeed m_thoughtAll m_acts m_undone m_laid m_firstMove m_seens m_time m_waysNow m_fitting 148 (f 148) from hT.1 148 (by decide))
  refine va_get (D := D) (cl := vwCl) (ci := 9) (v := .ref (ad 152)) (C := RX9) (T := TX9) (N := 64) hx hb hts in_X9_threads_X9 hown hK hP 148 (wl_at (by decide) e16) rfl 12 (by decide) (hts (.fieldLink RX9 24 "EightReasonsModel" "strands" "[I") (List.mem_of_getElem? (i := 1) rfl)) (fun _ h9 => h9) rfl dX9_threads_1 ?_
  refine lv_aload_n hx hb dX9_threads_4 rfl (lv_at hl 0 rfl) ?_
  refine va_get (D := D) (cl := vwCl) (ci := 9) (v := .int m_bank) (C := RX9) (T := TX9) (N := 64) hx hb hts in_X9_threads_X9 hown hK hP 148 (wl_at (by decide) e16) rfl 29 (by decide) (hts (.fieldLink RX9 239 "EightReasonsModel" "bank" "I") (List.mem_of_getElem? (i := 2) rfl)) (fun _ h9 => h9) rfl dX9_threads_5 ?_
  obtain ⟨e17, h18⟩ := (show okIpr cy 2 (0) (12) 1 0 c_strands (f 152) from hT.1 152 (by decide))
  refine va_iald hx hb hK hP 152 0 (wl_at (by decide) e17) rfl (vp_in_iff.mpr ⟨by omega, by omega⟩) dX9_threads_8 ?_
  refine lv_topi (fun x19 ex19 => ?_)
  have hx19 := r_el (h18 _ (Nat.mod_one _)) ex19
  have kx19 := congrArg Int32.toInt ex19
  exact tI hx hb hr hlk rfl hP hS ⟨(by omega), rfl⟩ dX9_threads_9
set_option maxHeartbeats 4000000 in
set_option maxRecDepth 100000 in
theorem s_X9_layTold_0 (l : Launch) (B0 : Nat) (adK adV : Nat → Nat) (D : va_G) (cy : Nat → ClassId) (ad : Nat → Nat) (fr0 : Nat → va_E) (c_text : Nat → Int32) (m_taped : Int32) (m_size : Int32) (m_faultKind : Int32) (m_faultPlace : Int32) (m_at : Int32) (m_end : Int32) (m_token : Int32) (m_number : Int32) (m_name : Int64) (c_points : Nat → Int32) (c_strands : Nat → Int32) (c_units : Nat → Int32) (c_told : Nat → Int32) (c_ruleFrom : Nat → Int32) (c_ruleTo : Nat → Int32) (c_code : Nat → Int32) (c_eWhat : Nat → Int32) (c_eSign : Nat → Int32) (m_bank : Int32) (m_rb : Int32) (m_codes : Int32) (m_within : Int32) (m_piled : Int32) (m_unitsInRule : Int32) (m_askStrand : Int32) (m_askTied : Int32) (m_thoughtClaim : Int32) (m_thoughtNeed : Int32) (m_thoughtAll : Int32) (c_roundOf : Nat → Int32) (m_acts : Int32) (m_undone : Int32) (m_laid : Int32) (m_firstMove : Int32) (m_seens : Int32) (m_time : Int32) (m_waysNow : Int32) (m_fitting : Int32) (f : Nat → va_E) (hT : TYm ad cy fr0 c_text m_taped m_size m_faultKind m_faultPlace m_at m_end m_token m_number m_name c_points c_strands c_units c_told c_ruleFrom c_ruleTo c_code c_eWhat c_eSign m_bank m_rb m_codes m_within m_piled m_unitsInRule m_askStrand m_askTied m_thoughtClaim m_thoughtNeed m_thoughtAll c_roundOf m_acts m_undone m_laid m_firstMove m_seens m_time m_waysNow m_fitting f) (sz : Nat) : TtV l yX9_layTold wsX9_layTold 1 20 [.ref (ad 148)] B0 adK adV D cy ad f sz (fun (g : Nat → va_E) => True ∧ (TYm ad cy fr0 c_text m_taped m_size m_faultKind m_faultPlace m_at m_end m_token m_number m_name c_points c_strands c_units c_told c_ruleFrom c_ruleTo c_code c_eWhat c_eSign m_bank m_rb m_codes m_within m_piled m_unitsInRule m_askStrand m_askTied m_thoughtClaim m_thoughtNeed m_thoughtAll c_roundOf m_acts m_undone m_laid m_firstMove m_seens m_time m_waysNow m_fitting g)) := by
  refine TtV.of (cc := cX9_layTold) (maxL := 2) (own := RX9) (by decide) rfl (Nat.le_of_ble_eq_true rfl) rfl ?_
  intro p e s m below meth c A ls hx hb hr hml hts hown hlk hK hE hP hD hS hA hAB hl
  have hl : lv_has ls 2 [(0, .ref (ad 148))] := hl
  refine st0 (fun H locs hP hS => ?_) hP hS
  have j37 : ∀ (N : Nat) (f : Nat → va_E) (H : Heap) (locs : List Loc) (ls : Array Slot) (v37_l1 : Int32), (13 - v37_l1.toInt ≤ (N : Int)) → (0 ≤ v37_l1.toInt ∧ v37_l1.toInt ≤ 12) → (TYm ad cy fr0 c_text m_taped m_size m_faultKind m_faultPlace m_at m_end m_token m_number m_name c_points c_strands c_units c_told c_ruleFrom c_ruleTo c_code c_eWhat c_eSign m_bank m_rb m_codes m_within m_piled m_unitsInRule m_askStrand m_askTied m_thoughtClaim m_thoughtNeed m_thoughtAll c_roundOf m_acts m_undone m_laid m_firstMove m_seens m_time m_waysNow m_fitting f) → (va_P D vwCl (wl ad f) H) → (va_D A (wl ad f)) → (va_S A s.heap H locs) → (lv_has ls 2 [(1, .int v37_l1), (0, .ref (ad 148))]) → W p l e (rmO 1 20 0 0) s m ([.ref (ad 148)] : List Value).toArray below meth c H locs 0 0 (MQ below (va_Qv (fun (g : Nat → va_E) => True ∧ (TYm ad cy fr0 c_text m_taped m_size m_faultKind m_faultPlace m_at m_end m_token m_number m_name c_points c_strands c_units c_told c_ruleFrom c_ruleTo c_code c_eWhat c_eSign m_bank m_rb m_codes m_within m_piled m_unitsInRule m_askStrand m_askTied m_thoughtClaim m_thoughtNeed m_thoughtAll c_roundOf m_acts m_undone m_laid m_firstMove m_seens m_time m_waysNow m_fitting g)) (fun g t => PstT D ad g t) A) ([.ref (ad 148)] : List Value).toArray s 0 0 A) (F0 m 37 ls []) := by
    intro N
    induction N with
    | zero => intro f H locs ls v37_l1 hN hv37_l1 hT hP hD hS hl; exact absurd hN (by omega)
    | succ N ih37 =>
      intro f H locs ls v37_l1 hN hv37_l1 hT hP hD hS hl
      refine lv_iload_n hx hb dX9_layTold_37 rfl (lv_at hl 0 rfl) ?_
      refine lv_aload_n hx hb dX9_layTold_38 rfl (lv_at hl 1 rfl) ?_
      obtain ⟨e16, h1, h2, h3, h4, h5, h6, h7, h8, h9, h10, h11, h12, h13, h14, h15⟩ := (show okX9 ad m_taped m_size m_faultKind m_faultPlace m_at m_end m_token m_number m_name m_bank m_rb m_codes m_within m_piled m_unitsInRule m_askStrand m_askTied m_thoughtClaim m_thoughtNeed m_thoughtAll m_acts m_undone m_laid m_firstMove m_seens m_time m_waysNow m_fitting 148 (f 148) from hT.1 148 (by decide))
      refine tVI (As := []) (rest := [.int v37_l1]) (i := 148) ⟨hx, hb, hml, hown, hts⟩ hK hE hP hD hS hA hAB (s_X9_threads_0 l B0 adK adV D cy ad fr0 c_text m_taped m_size m_faultKind m_faultPlace m_at m_end m_token m_number m_name c_points c_strands c_units c_told c_ruleFrom c_ruleTo c_code c_eWhat c_eSign m_bank m_rb m_codes m_within m_piled m_unitsInRule m_askStrand m_askTied m_thoughtClaim m_thoughtNeed m_thoughtAll c_roundOf m_acts m_undone m_laid m_firstMove m_seens m_time m_waysNow m_fitting f hT _) (cwV 0 hts gX9_layTold_X9_threads rfl rfl rfl (by decide +kernel) ⟨Nat.le_of_ble_eq_true rfl, Nat.le_of_ble_eq_true rfl⟩) (by decide) 9 e16 rfl rfl hl.1 rfl (Nat.le_of_ble_eq_true rfl) dX9_layTold_39 ⟨Nat.le_of_ble_eq_true rfl, Nat.le_of_ble_eq_true rfl⟩ (fun r g H locs hw hP hD hS => ?_)
      obtain ⟨hrs, rfl⟩ := hw
      obtain ⟨x17, rfl⟩ : ∃ q, q = r := ⟨_, rfl⟩
      have h18 := hrs
      refine lv_icmp_ge (tgt := 73) hx hb dX9_layTold_42 (by decide) (fun c19 => ?_) (fun c19 => ?_)
      · have kc19 := c_le c19
        refine lv_aload_n hx hb dX9_layTold_73 rfl (lv_at hl 1 rfl) ?_
        refine va_get (D := D) (cl := vwCl) (ci := 9) (v := .ref (ad 169)) (C := RX9) (T := TX9) (N := 64) hx hb hts in_X9_layTold_X9 hown hK hP 148 (wl_at (by decide) e16) rfl 37 (by decide) (hts (.fieldLink RX9 76 "EightReasonsModel" "all" "[I") (List.mem_of_getElem? (i := 1) rfl)) (fun _ h9 => h9) rfl dX9_layTold_74 ?_
        refine lv_bipush (v := 15) hx hb dX9_layTold_77 (by decide) ?_
        refine lv_aload_n hx hb dX9_layTold_79 rfl (lv_at hl 1 rfl) ?_
        refine va_get (D := D) (cl := vwCl) (ci := 9) (v := .ref (ad 155)) (C := RX9) (T := TX9) (N := 64) hx hb hts in_X9_layTold_X9 hown hK hP 148 (wl_at (by decide) e16) rfl 15 (by decide) (hts (.fieldLink RX9 33 "EightReasonsModel" "draw" "[I") (List.mem_of_getElem? (i := 4) rfl)) (fun _ h9 => h9) rfl dX9_layTold_80 ?_
        refine lv_aload_n hx hb dX9_layTold_83 rfl (lv_at hl 1 rfl) ?_
        refine va_get (D := D) (cl := vwCl) (ci := 9) (v := .int m_bank) (C := RX9) (T := TX9) (N := 64) hx hb hts in_X9_layTold_X9 hown hK hP 148 (wl_at (by decide) e16) rfl 29 (by decide) (hts (.fieldLink RX9 239 "EightReasonsModel" "bank" "I") (List.mem_of_getElem? (i := 3) rfl)) (fun _ h9 => h9) rfl dX9_layTold_84 ?_
        obtain ⟨g21, e20⟩ := (show okI cy 2 (f 155) from hT.1 155 (by decide))
        refine va_iald hx hb hK hP 155 0 (wl_at (by decide) e20) rfl (vp_in_iff.mpr ⟨by omega, by omega⟩) dX9_layTold_87 ?_
        refine lv_topi (fun x22 ex22 => ?_)
        obtain ⟨g25, e23, h24⟩ := (show okIr cy 16 (0) (4095) 16 1 (f 169) from hT.1 169 (by decide))
        have ttl_15 := tl_15
        refine va_iast hx hb hK hP hD hS 169 0 (wl_at (by decide) e23) rfl (vin (by decide)) dX9_layTold_88 (fun H locs hP hD hS => ?_)
        obtain ⟨f, hT, hP, hD, e26, hj27⟩ := stU (by decide) (TYm.up hT (by decide) (show OKm ad cy c_text m_taped m_size m_faultKind m_faultPlace m_at m_end m_token m_number m_name c_points c_strands c_units c_told c_ruleFrom c_ruleTo c_code c_eWhat c_eSign m_bank m_rb m_codes m_within m_piled m_unitsInRule m_askStrand m_askTied m_thoughtClaim m_thoughtNeed m_thoughtAll c_roundOf m_acts m_undone m_laid m_firstMove m_seens m_time m_waysNow m_fitting 169 _ from (show okIr cy 16 (0) (4095) 16 1 _ from ⟨_, rfl, upd_r h24 (fun q => absurd q (by decide))⟩))) hP hD
        have e28 := (hj27 148 (by decide)).trans e16
        have e29 := (hj27 155 (by decide)).trans e20
        exact tV hx hb hr hlk hP hS ⟨trivial, hT⟩ dX9_layTold_89
      · have kc19 := c_nle c19
        refine lv_aload_n hx hb dX9_layTold_45 rfl (lv_at hl 1 rfl) ?_
        refine va_get (D := D) (cl := vwCl) (ci := 9) (v := .ref (ad 169)) (C := RX9) (T := TX9) (N := 64) hx hb hts in_X9_layTold_X9 hown hK hP 148 (wl_at (by decide) e16) rfl 37 (by decide) (hts (.fieldLink RX9 76 "EightReasonsModel" "all" "[I") (List.mem_of_getElem? (i := 1) rfl)) (fun _ h9 => h9) rfl dX9_layTold_46 ?_
        refine lv_iconst (v := 2) hx hb dX9_layTold_49 (by decide) ?_
        refine lv_iload_n hx hb dX9_layTold_50 rfl (lv_at hl 0 rfl) ?_
        have ttl_2 := tl_2
        refine lv_iadd hx hb dX9_layTold_51 ?_
        refine lv_topi (fun x30 ex30 => ?_)
        have hx30 := r_add ex30 (by omega) (by omega)
        refine lv_aload_n hx hb dX9_layTold_52 rfl (lv_at hl 1 rfl) ?_
        refine va_get (D := D) (cl := vwCl) (ci := 9) (v := .ref (ad 160)) (C := RX9) (T := TX9) (N := 64) hx hb hts in_X9_layTold_X9 hown hK hP 148 (wl_at (by decide) e16) rfl 20 (by decide) (hts (.fieldLink RX9 48 "EightReasonsModel" "strongTold" "[I") (List.mem_of_getElem? (i := 2) rfl)) (fun _ h9 => h9) rfl dX9_layTold_53 ?_
        refine lv_bipush (v := 12) hx hb dX9_layTold_56 (by decide) ?_
        refine lv_aload_n hx hb dX9_layTold_58 rfl (lv_at hl 1 rfl) ?_
        refine va_get (D := D) (cl := vwCl) (ci := 9) (v := .int m_bank) (C := RX9) (T := TX9) (N := 64) hx hb hts in_X9_layTold_X9 hown hK hP 148 (wl_at (by decide) e16) rfl 29 (by decide) (hts (.fieldLink RX9 239 "EightReasonsModel" "bank" "I") (List.mem_of_getElem? (i := 3) rfl)) (fun _ h9 => h9) rfl dX9_layTold_59 ?_
        refine lv_imul hx hb dX9_layTold_62 ?_
        refine lv_topi (fun x31 ex31 => ?_)
        have hx31 := r_mull ex31 tl_12 (by omega) (by omega)
        refine lv_iload_n hx hb dX9_layTold_63 rfl (lv_at hl 0 rfl) ?_
        refine lv_iadd hx hb dX9_layTold_64 ?_
        refine lv_topi (fun x32 ex32 => ?_)
        have hx32 := r_add ex32 (by omega) (by omega)
        obtain ⟨g34, e33⟩ := (show okI cy 24 (f 160) from hT.1 160 (by decide))
        refine va_iald hx hb hK hP 160 0 (wl_at (by decide) e33) rfl (vp_in_iff.mpr ⟨by omega, by omega⟩) dX9_layTold_65 ?_
        refine lv_topi (fun x35 ex35 => ?_)
        obtain ⟨g38, e36, h37⟩ := (show okIr cy 16 (0) (4095) 16 1 (f 169) from hT.1 169 (by decide))
        refine va_iast hx hb hK hP hD hS 169 0 (wl_at (by decide) e36) rfl (vp_in_iff.mpr ⟨by omega, by omega⟩) dX9_layTold_66 (fun H locs hP hD hS => ?_)
        have hc39 := clampZ (x := x30) (by omega)
        obtain ⟨f, hT, hP, hD, e40, hj41⟩ := stU (by decide) (TYm.up hT (by decide) (show OKm ad cy c_text m_taped m_size m_faultKind m_faultPlace m_at m_end m_token m_number m_name c_points c_strands c_units c_told c_ruleFrom c_ruleTo c_code c_eWhat c_eSign m_bank m_rb m_codes m_within m_piled m_unitsInRule m_askStrand m_askTied m_thoughtClaim m_thoughtNeed m_thoughtAll c_roundOf m_acts m_undone m_laid m_firstMove m_seens m_time m_waysNow m_fitting 169 _ from (show okIr cy 16 (0) (4095) 16 1 _ from ⟨_, rfl, upd_r h37 (fun q => by omega)⟩))) hP hD
        have e42 := (hj41 148 (by decide)).trans e16
        have e43 := (hj41 160 (by decide)).trans e33
        obtain ⟨x44, ex44⟩ : ∃ q : Int32, q = v37_l1 + Int32.ofInt (1) := ⟨_, rfl⟩
        refine lv_iinc (v := x44) (lv' := [(1, .int x44), (0, .ref (ad 148))]) hx hb dX9_layTold_67 hl (k := 0) rfl ex44.symm (by decide) rfl (fun ls hl => ?_)
        have hx44 := r_inc ex44 (by decide) (by omega) (by omega)
        refine lv_goto (tgt := 37) hx hb dX9_layTold_70 (by decide) ?_
        exact ih37 f H locs ls x44 (by omega) (by omega) hT hP hD hS (lv_sub hl [0, 1] rfl)
  have j2 : ∀ (N : Nat) (f : Nat → va_E) (H : Heap) (locs : List Loc) (ls : Array Slot) (v2_l1 : Int32), (20 - v2_l1.toInt ≤ (N : Int)) → (0 ≤ v2_l1.toInt ∧ v2_l1.toInt ≤ 19) → (TYm ad cy fr0 c_text m_taped m_size m_faultKind m_faultPlace m_at m_end m_token m_number m_name c_points c_strands c_units c_told c_ruleFrom c_ruleTo c_code c_eWhat c_eSign m_bank m_rb m_codes m_within m_piled m_unitsInRule m_askStrand m_askTied m_thoughtClaim m_thoughtNeed m_thoughtAll c_roundOf m_acts m_undone m_laid m_firstMove m_seens m_time m_waysNow m_fitting f) → (va_P D vwCl (wl ad f) H) → (va_D A (wl ad f)) → (va_S A s.heap H locs) → (lv_has ls 2 [(1, .int v2_l1), (0, .ref (ad 148))]) → W p l e (rmO 1 20 0 0) s m ([.ref (ad 148)] : List Value).toArray below meth c H locs 0 0 (MQ below (va_Qv (fun (g : Nat → va_E) => True ∧ (TYm ad cy fr0 c_text m_taped m_size m_faultKind m_faultPlace m_at m_end m_token m_number m_name c_points c_strands c_units c_told c_ruleFrom c_ruleTo c_code c_eWhat c_eSign m_bank m_rb m_codes m_within m_piled m_unitsInRule m_askStrand m_askTied m_thoughtClaim m_thoughtNeed m_thoughtAll c_roundOf m_acts m_undone m_laid m_firstMove m_seens m_time m_waysNow m_fitting g)) (fun g t => PstT D ad g t) A) ([.ref (ad 148)] : List Value).toArray s 0 0 A) (F0 m 2 ls []) := by
    intro N
    induction N with
    | zero => intro f H locs ls v2_l1 hN hv2_l1 hT hP hD hS hl; exact absurd hN (by omega)
    | succ N ih2 =>
      intro f H locs ls v2_l1 hN hv2_l1 hT hP hD hS hl
      refine lv_iload_n hx hb dX9_layTold_2 rfl (lv_at hl 0 rfl) ?_
      refine lv_bipush (v := 16) hx hb dX9_layTold_3 (by decide) ?_
      have ttl_16 := tl_16
      refine lv_icmp_ge (tgt := 21) hx hb dX9_layTold_5 (by decide) (fun c45 => ?_) (fun c45 => ?_)
      · have kc45 := c_le c45
        refine lv_aload_n hx hb dX9_layTold_21 rfl (lv_at hl 1 rfl) ?_
        obtain ⟨e61, h46, h47, h48, h49, h50, h51, h52, h53, h54, h55, h56, h57, h58, h59, h60⟩ := (show okX9 ad m_taped m_size m_faultKind m_faultPlace m_at m_end m_token m_number m_name m_bank m_rb m_codes m_within m_piled m_unitsInRule m_askStrand m_askTied m_thoughtClaim m_thoughtNeed m_thoughtAll m_acts m_undone m_laid m_firstMove m_seens m_time m_waysNow m_fitting 148 (f 148) from hT.1 148 (by decide))
        refine va_get (D := D) (cl := vwCl) (ci := 9) (v := .ref (ad 169)) (C := RX9) (T := TX9) (N := 64) hx hb hts in_X9_layTold_X9 hown hK hP 148 (wl_at (by decide) e61) rfl 37 (by decide) (hts (.fieldLink RX9 76 "EightReasonsModel" "all" "[I") (List.mem_of_getElem? (i := 1) rfl)) (fun _ h9 => h9) rfl dX9_layTold_22 ?_
        refine lv_iconst (v := 1) hx hb dX9_layTold_25 (by decide) ?_
        refine lv_iconst (v := 1) hx hb dX9_layTold_26 (by decide) ?_
        refine lv_aload_n hx hb dX9_layTold_27 rfl (lv_at hl 1 rfl) ?_
        refine tVI (As := []) (rest := [.int 1, .int 1, .ref (ad 169)]) (i := 148) ⟨hx, hb, hml, hown, hts⟩ hK hE hP hD hS hA hAB (s_X9_threads_0 l B0 adK adV D cy ad fr0 c_text m_taped m_size m_faultKind m_faultPlace m_at m_end m_token m_number m_name c_points c_strands c_units c_told c_ruleFrom c_ruleTo c_code c_eWhat c_eSign m_bank m_rb m_codes m_within m_piled m_unitsInRule m_askStrand m_askTied m_thoughtClaim m_thoughtNeed m_thoughtAll c_roundOf m_acts m_undone m_laid m_firstMove m_seens m_time m_waysNow m_fitting f hT _) (cwV 0 hts gX9_layTold_X9_threads rfl rfl rfl (by decide +kernel) ⟨Nat.le_of_ble_eq_true rfl, Nat.le_of_ble_eq_true rfl⟩) (by decide) 9 e61 rfl rfl hl.1 rfl (Nat.le_of_ble_eq_true rfl) dX9_layTold_28 ⟨Nat.le_of_ble_eq_true rfl, Nat.le_of_ble_eq_true rfl⟩ (fun r g H locs hw hP hD hS => ?_)
        obtain ⟨hrs, rfl⟩ := hw
        obtain ⟨x62, rfl⟩ : ∃ q, q = r := ⟨_, rfl⟩
        have h63 := hrs
        refine lv_ishl hx hb dX9_layTold_31 ?_
        refine lv_topi (fun x64 ex64 => ?_)
        have hx64 := r_shl (K := 12) (M := 4096) ex64 (by decide) (by decide) (by omega) (by omega)
        refine lv_iconst (v := 1) hx hb dX9_layTold_32 (by decide) ?_
        have ttl_1 := tl_1
        refine lv_isub hx hb dX9_layTold_33 ?_
        refine lv_topi (fun x65 ex65 => ?_)
        have hx65 := r_sub ex65 (by omega) (by omega)
        obtain ⟨g68, e66, h67⟩ := (show okIr cy 16 (0) (4095) 16 1 (f 169) from hT.1 169 (by decide))
        refine va_iast hx hb hK hP hD hS 169 0 (wl_at (by decide) e66) rfl (vin (by decide)) dX9_layTold_34 (fun H locs hP hD hS => ?_)
        obtain ⟨f, hT, hP, hD, e69, hj70⟩ := stU (by decide) (TYm.up hT (by decide) (show OKm ad cy c_text m_taped m_size m_faultKind m_faultPlace m_at m_end m_token m_number m_name c_points c_strands c_units c_told c_ruleFrom c_ruleTo c_code c_eWhat c_eSign m_bank m_rb m_codes m_within m_piled m_unitsInRule m_askStrand m_askTied m_thoughtClaim m_thoughtNeed m_thoughtAll c_roundOf m_acts m_undone m_laid m_firstMove m_seens m_time m_waysNow m_fitting 169 _ from (show okIr cy 16 (0) (4095) 16 1 _ from ⟨_, rfl, upd_r h67 (fun _ => by omega)⟩))) hP hD
        have e71 := (hj70 148 (by decide)).trans e61
        refine lv_iconst (v := 0) hx hb dX9_layTold_35 (by decide) ?_
        refine lv_istore_n (lv' := [(1, .int 0), (0, .ref (ad 148))]) hx hb dX9_layTold_36 rfl hl (by decide) rfl (fun ls hl => ?_)
        have ttl_0 := tl_0
        exact j37 (Int.toNat (13 - (0 : Int32).toInt)) f H locs ls (0 : Int32) (by omega) (by omega) hT hP hD hS (lv_sub hl [0, 1] rfl)
      · have kc45 := c_nle c45
        refine lv_aload_n hx hb dX9_layTold_8 rfl (lv_at hl 1 rfl) ?_
        obtain ⟨e87, h72, h73, h74, h75, h76, h77, h78, h79, h80, h81, h82, h83, h84, h85, h86⟩ := (show okX9 ad m_taped m_size m_faultKind m_faultPlace m_at m_end m_token m_number m_name m_bank m_rb m_codes m_within m_piled m_unitsInRule m_askStrand m_askTied m_thoughtClaim m_thoughtNeed m_thoughtAll m_acts m_undone m_laid m_firstMove m_seens m_time m_waysNow m_fitting 148 (f 148) from hT.1 148 (by decide))
        refine va_get (D := D) (cl := vwCl) (ci := 9) (v := .ref (ad 169)) (C := RX9) (T := TX9) (N := 64) hx hb hts in_X9_layTold_X9 hown hK hP 148 (wl_at (by decide) e87) rfl 37 (by decide) (hts (.fieldLink RX9 76 "EightReasonsModel" "all" "[I") (List.mem_of_getElem? (i := 1) rfl)) (fun _ h9 => h9) rfl dX9_layTold_9 ?_
        refine lv_iload_n hx hb dX9_layTold_12 rfl (lv_at hl 0 rfl) ?_
        refine lv_iconst (v := 0) hx hb dX9_layTold_13 (by decide) ?_
        obtain ⟨g90, e88, h89⟩ := (show okIr cy 16 (0) (4095) 16 1 (f 169) from hT.1 169 (by decide))
        have ttl_0 := tl_0
        refine va_iast hx hb hK hP hD hS 169 0 (wl_at (by decide) e88) rfl (vp_in_iff.mpr ⟨by omega, by omega⟩) dX9_layTold_14 (fun H locs hP hD hS => ?_)
        obtain ⟨f, hT, hP, hD, e91, hj92⟩ := stU (by decide) (TYm.up hT (by decide) (show OKm ad cy c_text m_taped m_size m_faultKind m_faultPlace m_at m_end m_token m_number m_name c_points c_strands c_units c_told c_ruleFrom c_ruleTo c_code c_eWhat c_eSign m_bank m_rb m_codes m_within m_piled m_unitsInRule m_askStrand m_askTied m_thoughtClaim m_thoughtNeed m_thoughtAll c_roundOf m_acts m_undone m_laid m_firstMove m_seens m_time m_waysNow m_fitting 169 _ from (show okIr cy 16 (0) (4095) 16 1 _ from ⟨_, rfl, upd_r h89 (fun _ => by omega)⟩))) hP hD
        have e93 := (hj92 148 (by decide)).trans e87
        obtain ⟨x94, ex94⟩ : ∃ q : Int32, q = v2_l1 + Int32.ofInt (1) := ⟨_, rfl⟩
        refine lv_iinc (v := x94) (lv' := [(1, .int x94), (0, .ref (ad 148))]) hx hb dX9_layTold_15 hl (k := 0) rfl ex94.symm (by decide) rfl (fun ls hl => ?_)
        have hx94 := r_inc ex94 (by decide) (by omega) (by omega)
        refine lv_goto (tgt := 2) hx hb dX9_layTold_18 (by decide) ?_
        exact ih2 f H locs ls x94 (by omega) (by omega) hT hP hD hS (lv_sub hl [0, 1] rfl)
  refine lv_iconst (v := 0) hx hb dX9_layTold_0 (by decide) ?_
  refine lv_istore_n (lv' := [(1, .int 0), (0, .ref (ad 148))]) hx hb dX9_layTold_1 rfl hl (by decide) rfl (fun ls hl => ?_)
  have ttl_0 := tl_0
  exact j2 (Int.toNat (20 - (0 : Int32).toInt)) f H locs ls (0 : Int32) (by omega) (by omega) hT hP hD hS (lv_sub hl [0, 1] rfl)
set_option maxHeartbeats 4000000 in
set_option maxRecDepth 100000 in
theorem s_X9_startAnew_0 (l : Launch) (B0 : Nat) (adK adV : Nat → Nat) (D : va_G) (cy : Nat → ClassId) (ad : Nat → Nat) (fr0 : Nat → va_E) (c_text : Nat → Int32) (m_taped : Int32) (m_size : Int32) (m_faultKind : Int32) (m_faultPlace : Int32) (m_at : Int32) (m_end : Int32) (m_token : Int32) (m_number : Int32) (m_name : Int64) (c_points : Nat → Int32) (c_strands : Nat → Int32) (c_units : Nat → Int32) (c_told : Nat → Int32) (c_ruleFrom : Nat → Int32) (c_ruleTo : Nat → Int32) (c_code : Nat → Int32) (c_eWhat : Nat → Int32) (c_eSign : Nat → Int32) (m_bank : Int32) (m_rb : Int32) (m_codes : Int32) (m_within : Int32) (m_piled : Int32) (m_unitsInRule : Int32) (m_askStrand : Int32) (m_askTied : Int32) (m_thoughtClaim : Int32) (m_thoughtNeed : Int32) (m_thoughtAll : Int32) (c_roundOf : Nat → Int32) (m_acts : Int32) (m_undone : Int32) (m_laid : Int32) (m_firstMove : Int32) (m_seens : Int32) (m_time : Int32) (m_waysNow : Int32) (m_fitting : Int32) (f : Nat → va_E) (hT : TYm ad cy fr0 c_text m_taped m_size m_faultKind m_faultPlace m_at m_end m_token m_number m_name c_points c_strands c_units c_told c_ruleFrom c_ruleTo c_code c_eWhat c_eSign m_bank m_rb m_codes m_within m_piled m_unitsInRule m_askStrand m_askTied m_thoughtClaim m_thoughtNeed m_thoughtAll c_roundOf m_acts m_undone m_laid m_firstMove m_seens m_time m_waysNow m_fitting f) (sz : Nat) : TtV l yX9_startAnew wsX9_startAnew 2 41 [.ref (ad 148)] B0 adK adV D cy ad f sz (fun (g : Nat → va_E) => True ∧ (∃ (m_acts' : Int32) (m_undone' : Int32) (m_laid' : Int32) (m_seens' : Int32), TYm ad cy fr0 c_text m_taped m_size m_faultKind m_faultPlace m_at m_end m_token m_number m_name c_points c_strands c_units c_told c_ruleFrom c_ruleTo c_code c_eWhat c_eSign m_bank m_rb m_codes m_within m_piled m_unitsInRule m_askStrand m_askTied m_thoughtClaim m_thoughtNeed m_thoughtAll c_roundOf m_acts' m_undone' m_laid' m_firstMove m_seens' m_time m_waysNow m_fitting g ∧ (0 ≤ m_acts'.toInt ∧ m_acts'.toInt ≤ 0) ∧ (0 ≤ m_undone'.toInt ∧ m_undone'.toInt ≤ 0) ∧ (0 ≤ m_laid'.toInt ∧ m_laid'.toInt ≤ 0) ∧ (0 ≤ m_seens'.toInt ∧ m_seens'.toInt ≤ 0) ∧ (m_acts'.toInt + m_undone'.toInt ≤ 40 ∧ 0 ≤ m_undone'.toInt))) := by
  refine TtV.of (cc := cX9_startAnew) (maxL := 2) (own := RX9) (by decide) rfl (Nat.le_of_ble_eq_true rfl) rfl ?_
  intro p e s m below meth c A ls hx hb hr hml hts hown hlk hK hE hP hD hS hA hAB hl
  have hl : lv_has ls 2 [(0, .ref (ad 148))] := hl
  refine st0 (fun H locs hP hS => ?_) hP hS
  have j26 : ∀ (N : Nat) (f : Nat → va_E) (H : Heap) (locs : List Loc) (ls : Array Slot) (v26_l1 : Int32), (4 - v26_l1.toInt ≤ (N : Int)) → (0 ≤ v26_l1.toInt ∧ v26_l1.toInt ≤ 3) → (TYm ad cy fr0 c_text m_taped m_size m_faultKind m_faultPlace m_at m_end m_token m_number m_name c_points c_strands c_units c_told c_ruleFrom c_ruleTo c_code c_eWhat c_eSign m_bank m_rb m_codes m_within m_piled m_unitsInRule m_askStrand m_askTied m_thoughtClaim m_thoughtNeed m_thoughtAll c_roundOf 0 0 0 m_firstMove 0 m_time m_waysNow m_fitting f) → (va_P D vwCl (wl ad f) H) → (va_D A (wl ad f)) → (va_S A s.heap H locs) → (lv_has ls 2 [(1, .int v26_l1), (0, .ref (ad 148))]) → W p l e (rmO 2 41 0 0) s m ([.ref (ad 148)] : List Value).toArray below meth c H locs 0 0 (MQ below (va_Qv (fun (g : Nat → va_E) => True ∧ (∃ (m_acts' : Int32) (m_undone' : Int32) (m_laid' : Int32) (m_seens' : Int32), TYm ad cy fr0 c_text m_taped m_size m_faultKind m_faultPlace m_at m_end m_token m_number m_name c_points c_strands c_units c_told c_ruleFrom c_ruleTo c_code c_eWhat c_eSign m_bank m_rb m_codes m_within m_piled m_unitsInRule m_askStrand m_askTied m_thoughtClaim m_thoughtNeed m_thoughtAll c_roundOf m_acts' m_undone' m_laid' m_firstMove m_seens' m_time m_waysNow m_fitting g ∧ (0 ≤ m_acts'.toInt ∧ m_acts'.toInt ≤ 0) ∧ (0 ≤ m_undone'.toInt ∧ m_undone'.toInt ≤ 0) ∧ (0 ≤ m_laid'.toInt ∧ m_laid'.toInt ≤ 0) ∧ (0 ≤ m_seens'.toInt ∧ m_seens'.toInt ≤ 0) ∧ (m_acts'.toInt + m_undone'.toInt ≤ 40 ∧ 0 ≤ m_undone'.toInt))) (fun g t => PstT D ad g t) A) ([.ref (ad 148)] : List Value).toArray s 0 0 A) (F0 m 26 ls []) := by
    intro N
    induction N with
    | zero => intro f H locs ls v26_l1 hN hv26_l1 hT hP hD hS hl; exact absurd hN (by omega)
    | succ N ih26 =>
      intro f H locs ls v26_l1 hN hv26_l1 hT hP hD hS hl
      refine lv_iload_n hx hb dX9_startAnew_26 rfl (lv_at hl 0 rfl) ?_
      refine lv_iconst (v := 3) hx hb dX9_startAnew_27 (by decide) ?_
      have ttl_3 := tl_3
      refine lv_icmp_ge (tgt := 44) hx hb dX9_startAnew_28 (by decide) (fun c1 => ?_) (fun c1 => ?_)
      · have kc1 := c_le c1
        have ttl_0 := tl_0
        exact tV hx hb hr hlk hP hS ⟨trivial, ⟨(0 : Int32), (0 : Int32), (0 : Int32), (0 : Int32), hT, by omega, by omega, by omega, by omega, by omega⟩⟩ dX9_startAnew_44
      · have kc1 := c_nle c1
        refine lv_aload_n hx hb dX9_startAnew_31 rfl (lv_at hl 1 rfl) ?_
        obtain ⟨e17, h2, h3, h4, h5, h6, h7, h8, h9, h10, h11, h12, h13, h14, h15, h16⟩ := (show okX9 ad m_taped m_size m_faultKind m_faultPlace m_at m_end m_token m_number m_name m_bank m_rb m_codes m_within m_piled m_unitsInRule m_askStrand m_askTied m_thoughtClaim m_thoughtNeed m_thoughtAll 0 0 0 m_firstMove 0 m_time m_waysNow m_fitting 148 (f 148) from hT.1 148 (by decide))
        refine va_get (D := D) (cl := vwCl) (ci := 9) (v := .ref (ad 184)) (C := RX9) (T := TX9) (N := 64) hx hb hts in_X9_startAnew_X9 hown hK hP 148 (wl_at (by decide) e17) rfl 63 (by decide) (hts (.fieldLink RX9 128 "EightReasonsModel" "isBoxed" "[Z") (List.mem_of_getElem? (i := 5) rfl)) (fun _ h9 => h9) rfl dX9_startAnew_32 ?_
        refine lv_iload_n hx hb dX9_startAnew_35 rfl (lv_at hl 0 rfl) ?_
        refine lv_iconst (v := 0) hx hb dX9_startAnew_36 (by decide) ?_
        obtain ⟨g19, e18⟩ := (show okZ cy 3 (f 184) from hT.1 184 (by decide))
        have ttl_0 := tl_0
        refine va_zast hx hb hK hP hD hS 184 3 (wl_at (by decide) e18) rfl (vp_in_iff.mpr ⟨by omega, by omega⟩) dX9_startAnew_37 (fun H locs hP hD hS => ?_)
        obtain ⟨f, hT, hP, hD, e20, hj21⟩ := stU (by decide) (TYm.up hT (by decide) (show OKm ad cy c_text m_taped m_size m_faultKind m_faultPlace m_at m_end m_token m_number m_name c_points c_strands c_units c_told c_ruleFrom c_ruleTo c_code c_eWhat c_eSign m_bank m_rb m_codes m_within m_piled m_unitsInRule m_askStrand m_askTied m_thoughtClaim m_thoughtNeed m_thoughtAll c_roundOf 0 0 0 m_firstMove 0 m_time m_waysNow m_fitting 184 _ from (show okZ cy 3 _ from ⟨_, rfl⟩))) hP hD
        have e22 := (hj21 148 (by decide)).trans e17
        obtain ⟨x23, ex23⟩ : ∃ q : Int32, q = v26_l1 + Int32.ofInt (1) := ⟨_, rfl⟩
        refine lv_iinc (v := x23) (lv' := [(1, .int x23), (0, .ref (ad 148))]) hx hb dX9_startAnew_38 hl (k := 0) rfl ex23.symm (by decide) rfl (fun ls hl => ?_)
        have hx23 := r_inc ex23 (by decide) (by omega) (by omega)
        refine lv_goto (tgt := 26) hx hb dX9_startAnew_41 (by decide) ?_
        exact ih26 f H locs ls x23 (by omega) (by omega) hT hP hD hS (lv_sub hl [0, 1] rfl)
  refine lv_aload_n hx hb dX9_startAnew_0 rfl (lv_at hl 0 rfl) ?_
  obtain ⟨e39, h24, h25, h26, h27, h28, h29, h30, h31, h32, h33, h34, h35, h36, h37, h38⟩ := (show okX9 ad m_taped m_size m_faultKind m_faultPlace m_at m_end m_token m_number m_name m_bank m_rb m_codes m_within m_piled m_unitsInRule m_askStrand m_askTied m_thoughtClaim m_thoughtNeed m_thoughtAll m_acts m_undone m_laid m_firstMove m_seens m_time m_waysNow m_fitting 148 (f 148) from hT.1 148 (by decide))
  refine tVV (As := []) (rest := []) (i := 148) ⟨hx, hb, hml, hown, hts⟩ hK hE hP hD hS hA hAB (s_X9_layTold_0 l B0 adK adV D cy ad fr0 c_text m_taped m_size m_faultKind m_faultPlace m_at m_end m_token m_number m_name c_points c_strands c_units c_told c_ruleFrom c_ruleTo c_code c_eWhat c_eSign m_bank m_rb m_codes m_within m_piled m_unitsInRule m_askStrand m_askTied m_thoughtClaim m_thoughtNeed m_thoughtAll c_roundOf m_acts m_undone m_laid m_firstMove m_seens m_time m_waysNow m_fitting f hT _) (cwV 0 hts gX9_startAnew_X9_layTold rfl rfl rfl (by decide +kernel) ⟨Nat.le_of_ble_eq_true rfl, Nat.le_of_ble_eq_true rfl⟩) (by decide) 9 e39 rfl rfl hl.1 rfl (Nat.le_of_ble_eq_true rfl) dX9_startAnew_1 ⟨Nat.le_of_ble_eq_true rfl, Nat.le_of_ble_eq_true rfl⟩ (fun f H locs hw hP hD hS => ?_)
  obtain ⟨hrs, hT⟩ := hw
  refine lv_aload_n hx hb dX9_startAnew_4 rfl (lv_at hl 0 rfl) ?_
  refine lv_iconst (v := 0) hx hb dX9_startAnew_5 (by decide) ?_
  obtain ⟨e55, h40, h41, h42, h43, h44, h45, h46, h47, h48, h49, h50, h51, h52, h53, h54⟩ := (show okX9 ad m_taped m_size m_faultKind m_faultPlace m_at m_end m_token m_number m_name m_bank m_rb m_codes m_within m_piled m_unitsInRule m_askStrand m_askTied m_thoughtClaim m_thoughtNeed m_thoughtAll m_acts m_undone m_laid m_firstMove m_seens m_time m_waysNow m_fitting 148 (f 148) from hT.1 148 (by decide))
  refine va_put (D := D) (cl := vwCl) (ci := 9) (v := .int 0) (ty := tyX9 45) (C := RX9) (T := TX9) (N := 64) hx hb hts in_X9_startAnew_X9 tyX9 tyX9_ok nmX9 hown hK hP hD hS 148 (wl_at (by decide) e55) rfl 45 (by decide) (hts (.fieldLink RX9 368 "EightReasonsModel" "acts" "I") (List.mem_of_getElem? (i := 1) rfl)) (fun _ h9 => h9) rfl (tyX9_ok 45 (by decide)) rfl rfl (Nat.le_of_ble_eq_true rfl) dX9_startAnew_6 (fun H locs hP hD hS => ?_)
  have ttl_0 := tl_0
  obtain ⟨f, hT, hP, hD, e56, hj57⟩ := stU (by decide) (TYm.p148 hT (show OKm ad cy c_text m_taped m_size m_faultKind m_faultPlace m_at m_end m_token m_number m_name c_points c_strands c_units c_told c_ruleFrom c_ruleTo c_code c_eWhat c_eSign m_bank m_rb m_codes m_within m_piled m_unitsInRule m_askStrand m_askTied m_thoughtClaim m_thoughtNeed m_thoughtAll c_roundOf 0 m_undone m_laid m_firstMove m_seens m_time m_waysNow m_fitting 148 _ from (show okX9 ad m_taped m_size m_faultKind m_faultPlace m_at m_end m_token m_number m_name m_bank m_rb m_codes m_within m_piled m_unitsInRule m_askStrand m_askTied m_thoughtClaim m_thoughtNeed m_thoughtAll 0 m_undone m_laid m_firstMove m_seens m_time m_waysNow m_fitting 148 _ from ⟨rfl, by omega, by omega, by omega, by omega, by omega, by omega, by omega, by omega, by omega, by omega, by omega, by omega, by omega, by omega, by omega⟩))) hP hD
  refine lv_aload_n hx hb dX9_startAnew_9 rfl (lv_at hl 0 rfl) ?_
  refine lv_iconst (v := 0) hx hb dX9_startAnew_10 (by decide) ?_
  refine va_put (D := D) (cl := vwCl) (ci := 9) (v := .int 0) (ty := tyX9 46) (C := RX9) (T := TX9) (N := 64) hx hb hts in_X9_startAnew_X9 tyX9 tyX9_ok nmX9 hown hK hP hD hS 148 (wl_at (by decide) e56) rfl 46 (by decide) (hts (.fieldLink RX9 371 "EightReasonsModel" "undone" "I") (List.mem_of_getElem? (i := 2) rfl)) (fun _ h9 => h9) rfl (tyX9_ok 46 (by decide)) rfl rfl (Nat.le_of_ble_eq_true rfl) dX9_startAnew_11 (fun H locs hP hD hS => ?_)
  obtain ⟨f, hT, hP, hD, e58, hj59⟩ := stU (by decide) (TYm.p148 hT (show OKm ad cy c_text m_taped m_size m_faultKind m_faultPlace m_at m_end m_token m_number m_name c_points c_strands c_units c_told c_ruleFrom c_ruleTo c_code c_eWhat c_eSign m_bank m_rb m_codes m_within m_piled m_unitsInRule m_askStrand m_askTied m_thoughtClaim m_thoughtNeed m_thoughtAll c_roundOf 0 0 m_laid m_firstMove m_seens m_time m_waysNow m_fitting 148 _ from (show okX9 ad m_taped m_size m_faultKind m_faultPlace m_at m_end m_token m_number m_name m_bank m_rb m_codes m_within m_piled m_unitsInRule m_askStrand m_askTied m_thoughtClaim m_thoughtNeed m_thoughtAll 0 0 m_laid m_firstMove m_seens m_time m_waysNow m_fitting 148 _ from ⟨rfl, by omega, by omega, by omega, by omega, by omega, by omega, by omega, by omega, by omega, by omega, by omega, by omega, by omega, by omega, by omega⟩))) hP hD
  refine lv_aload_n hx hb dX9_startAnew_14 rfl (lv_at hl 0 rfl) ?_
  refine lv_iconst (v := 0) hx hb dX9_startAnew_15 (by decide) ?_
  refine va_put (D := D) (cl := vwCl) (ci := 9) (v := .int 0) (ty := tyX9 58) (C := RX9) (T := TX9) (N := 64) hx hb hts in_X9_startAnew_X9 tyX9 tyX9_ok nmX9 hown hK hP hD hS 148 (wl_at (by decide) e58) rfl 58 (by decide) (hts (.fieldLink RX9 374 "EightReasonsModel" "seens" "I") (List.mem_of_getElem? (i := 3) rfl)) (fun _ h9 => h9) rfl (tyX9_ok 58 (by decide)) rfl rfl (Nat.le_of_ble_eq_true rfl) dX9_startAnew_16 (fun H locs hP hD hS => ?_)
  obtain ⟨f, hT, hP, hD, e60, hj61⟩ := stU (by decide) (TYm.p148 hT (show OKm ad cy c_text m_taped m_size m_faultKind m_faultPlace m_at m_end m_token m_number m_name c_points c_strands c_units c_told c_ruleFrom c_ruleTo c_code c_eWhat c_eSign m_bank m_rb m_codes m_within m_piled m_unitsInRule m_askStrand m_askTied m_thoughtClaim m_thoughtNeed m_thoughtAll c_roundOf 0 0 m_laid m_firstMove 0 m_time m_waysNow m_fitting 148 _ from (show okX9 ad m_taped m_size m_faultKind m_faultPlace m_at m_end m_token m_number m_name m_bank m_rb m_codes m_within m_piled m_unitsInRule m_askStrand m_askTied m_thoughtClaim m_thoughtNeed m_thoughtAll 0 0 m_laid m_firstMove 0 m_time m_waysNow m_fitting 148 _ from ⟨rfl, by omega, by omega, by omega, by omega, by omega, by omega, by omega, by omega, by omega, by omega, by omega, by omega, by omega, by omega, by omega⟩))) hP hD
  refine lv_aload_n hx hb dX9_startAnew_19 rfl (lv_at hl 0 rfl) ?_
  refine lv_iconst (v := 0) hx hb dX9_startAnew_20 (by decide) ?_
  refine va_put (D := D) (cl := vwCl) (ci := 9) (v := .int 0) (ty := tyX9 48) (C := RX9) (T := TX9) (N := 64) hx hb hts in_X9_startAnew_X9 tyX9 tyX9_ok nmX9 hown hK hP hD hS 148 (wl_at (by decide) e60) rfl 48 (by decide) (hts (.fieldLink RX9 377 "EightReasonsModel" "laid" "I") (List.mem_of_getElem? (i := 4) rfl)) (fun _ h9 => h9) rfl (tyX9_ok 48 (by decide)) rfl rfl (Nat.le_of_ble_eq_true rfl) dX9_startAnew_21 (fun H locs hP hD hS => ?_)
  obtain ⟨f, hT, hP, hD, e62, hj63⟩ := stU (by decide) (TYm.p148 hT (show OKm ad cy c_text m_taped m_size m_faultKind m_faultPlace m_at m_end m_token m_number m_name c_points c_strands c_units c_told c_ruleFrom c_ruleTo c_code c_eWhat c_eSign m_bank m_rb m_codes m_within m_piled m_unitsInRule m_askStrand m_askTied m_thoughtClaim m_thoughtNeed m_thoughtAll c_roundOf 0 0 0 m_firstMove 0 m_time m_waysNow m_fitting 148 _ from (show okX9 ad m_taped m_size m_faultKind m_faultPlace m_at m_end m_token m_number m_name m_bank m_rb m_codes m_within m_piled m_unitsInRule m_askStrand m_askTied m_thoughtClaim m_thoughtNeed m_thoughtAll 0 0 0 m_firstMove 0 m_time m_waysNow m_fitting 148 _ from ⟨rfl, by omega, by omega, by omega, by omega, by omega, by omega, by omega, by omega, by omega, by omega, by omega, by omega, by omega, by omega, by omega⟩))) hP hD
  refine lv_iconst (v := 0) hx hb dX9_startAnew_24 (by decide) ?_
  refine lv_istore_n (lv' := [(1, .int 0), (0, .ref (ad 148))]) hx hb dX9_startAnew_25 rfl hl (by decide) rfl (fun ls hl => ?_)
  exact j26 (Int.toNat (4 - (0 : Int32).toInt)) f H locs ls (0 : Int32) (by omega) (by omega) hT hP hD hS (lv_sub hl [0, 1] rfl)
set_option maxHeartbeats 4000000 in
set_option maxRecDepth 100000 in
theorem s_X9_suit_0 (l : Launch) (B0 : Nat) (adK adV : Nat → Nat) (D : va_G) (cy : Nat → ClassId) (ad : Nat → Nat) (fr0 : Nat → va_E) (c_text : Nat → Int32) (m_taped : Int32) (m_size : Int32) (m_faultKind : Int32) (m_faultPlace : Int32) (m_at : Int32) (m_end : Int32) (m_token : Int32) (m_number : Int32) (m_name : Int64) (c_points : Nat → Int32) (c_strands : Nat → Int32) (c_units : Nat → Int32) (c_told : Nat → Int32) (c_ruleFrom : Nat → Int32) (c_ruleTo : Nat → Int32) (c_code : Nat → Int32) (c_eWhat : Nat → Int32) (c_eSign : Nat → Int32) (m_bank : Int32) (m_rb : Int32) (m_codes : Int32) (m_within : Int32) (m_piled : Int32) (m_unitsInRule : Int32) (m_askStrand : Int32) (m_askTied : Int32) (m_thoughtClaim : Int32) (m_thoughtNeed : Int32) (m_thoughtAll : Int32) (c_roundOf : Nat → Int32) (m_acts : Int32) (m_undone : Int32) (m_laid : Int32) (m_firstMove : Int32) (m_seens : Int32) (m_time : Int32) (m_waysNow : Int32) (m_fitting : Int32) (f : Nat → va_E) (hT : TYm ad cy fr0 c_text m_taped m_size m_faultKind m_faultPlace m_at m_end m_token m_number m_name c_points c_strands c_units c_told c_ruleFrom c_ruleTo c_code c_eWhat c_eSign m_bank m_rb m_codes m_within m_piled m_unitsInRule m_askStrand m_askTied m_thoughtClaim m_thoughtNeed m_thoughtAll c_roundOf m_acts m_undone m_laid m_firstMove m_seens m_time m_waysNow m_fitting f) (hh0 : m_acts.toInt + m_undone.toInt ≤ 40 ∧ 0 ≤ m_undone.toInt) (hCV : CVp c_told c_ruleFrom c_ruleTo c_code m_bank) (sz : Nat) : TtI l yX9_suit wsX9_suit 7 149 [.ref (ad 148)] B0 adK adV D cy ad f sz (fun (r : Int32) (g : Nat → va_E) => (-1 ≤ r.toInt ∧ r.toInt ≤ 10) ∧ (∃ (c_text' : Nat → Int32) (m_taped' : Int32) (m_size' : Int32) (m_faultKind' : Int32) (m_faultPlace' : Int32) (m_at' : Int32) (m_end' : Int32) (m_token' : Int32) (m_number' : Int32) (m_name' : Int64) (c_points' : Nat → Int32) (c_strands' : Nat → Int32) (c_units' : Nat → Int32) (c_told' : Nat → Int32) (c_ruleFrom' : Nat → Int32) (c_ruleTo' : Nat → Int32) (c_code' : Nat → Int32) (c_eWhat' : Nat → Int32) (c_eSign' : Nat → Int32) (m_bank' : Int32) (m_rb' : Int32) (m_codes' : Int32) (m_within' : Int32) (m_piled' : Int32) (m_unitsInRule' : Int32) (m_acts' : Int32) (m_undone' : Int32) (m_laid' : Int32) (m_seens' : Int32), TYm ad cy fr0 c_text' m_taped' m_size' m_faultKind' m_faultPlace' m_at' m_end' m_token' m_number' m_name' c_points' c_strands' c_units' c_told' c_ruleFrom' c_ruleTo' c_code' c_eWhat' c_eSign' m_bank' m_rb' m_codes' m_within' m_piled' m_unitsInRule' m_askStrand m_askTied m_thoughtClaim m_thoughtNeed m_thoughtAll c_roundOf m_acts' m_undone' m_laid' m_firstMove m_seens' m_time m_waysNow m_fitting g ∧ (0 ≤ m_taped'.toInt ∧ m_taped'.toInt ≤ 0) ∧ (0 ≤ m_end'.toInt ∧ m_end'.toInt ≤ 1600) ∧ (m_acts'.toInt + m_undone'.toInt ≤ 40 ∧ 0 ≤ m_undone'.toInt) ∧ CVp c_told' c_ruleFrom' c_ruleTo' c_code' m_bank')) := by
  refine TtI.of (cc := cX9_suit) (maxL := 2) (ty := .int) (own := RX9) (by decide) rfl (Nat.le_of_ble_eq_true rfl) rfl ?_
  intro p e s m below meth c A ls hx hb hr hml hts hown hlk hK hE hP hD hS hA hAB hl
  have hl : lv_has ls 2 [(0, .ref (ad 148))] := hl
  refine st0 (fun H locs hP hS => ?_) hP hS
  have j74 : ∀ (N : Nat) (f : Nat → va_E) (H : Heap) (locs : List Loc) (ls : Array Slot) (v74_l1 : Int32) (v74_p_c_text : Nat → Int32) (v74_p_m_faultKind : Int32) (v74_p_m_faultPlace : Int32) (v74_p_m_at : Int32) (v74_p_m_end : Int32) (v74_p_m_token : Int32) (v74_p_m_number : Int32) (v74_p_m_name : Int64) (v74_p_c_points : Nat → Int32) (v74_p_c_strands : Nat → Int32) (v74_p_c_units : Nat → Int32) (v74_p_c_told : Nat → Int32) (v74_p_c_ruleFrom : Nat → Int32) (v74_p_c_ruleTo : Nat → Int32) (v74_p_c_code : Nat → Int32) (v74_p_c_eWhat : Nat → Int32) (v74_p_c_eSign : Nat → Int32) (v74_p_m_rb : Int32) (v74_p_m_codes : Int32) (v74_p_m_within : Int32) (v74_p_m_piled : Int32) (v74_p_m_unitsInRule : Int32), (6 * (1602 - v74_p_m_at.toInt) - v74_p_m_faultKind.toInt ≤ (N : Int)) → (0 ≤ v74_l1.toInt ∧ v74_l1.toInt ≤ 1600) → (0 ≤ v74_p_m_end.toInt ∧ v74_p_m_end.toInt ≤ 1600) → (((v74_p_m_token.toInt = 0 ∧ v74_p_m_at.toInt = m_taped.toInt ∧ v74_p_m_end.toInt = m_taped.toInt) ∨ (1 ≤ v74_p_m_token.toInt ∧ v74_p_m_at.toInt < v74_p_m_end.toInt ∧ v74_p_m_end.toInt ≤ m_taped.toInt))) → ((v74_p_m_rb.toInt = 1 - m_bank.toInt ∧ 0 ≤ m_bank.toInt ∧ m_bank.toInt ≤ 1)) → ((0 ≤ v74_p_m_faultKind.toInt ∧ v74_p_m_faultKind.toInt ≤ 5)) → (v74_p_m_at.toInt ≤ 1600) → (PV v74_p_c_told v74_p_c_ruleFrom v74_p_c_ruleTo v74_p_c_code v74_p_m_codes v74_p_m_rb) → (FrC c_code v74_p_c_code v74_p_m_rb) → (Fr1 c_told v74_p_c_told v74_p_m_rb) → (Fr1 c_ruleFrom v74_p_c_ruleFrom v74_p_m_rb) → (Fr1 c_ruleTo v74_p_c_ruleTo v74_p_m_rb) → (TYm ad cy fr0 v74_p_c_text 0 m_taped v74_p_m_faultKind v74_p_m_faultPlace v74_p_m_at v74_p_m_end v74_p_m_token v74_p_m_number v74_p_m_name v74_p_c_points v74_p_c_strands v74_p_c_units v74_p_c_told v74_p_c_ruleFrom v74_p_c_ruleTo v74_p_c_code v74_p_c_eWhat v74_p_c_eSign m_bank v74_p_m_rb v74_p_m_codes v74_p_m_within v74_p_m_piled v74_p_m_unitsInRule m_askStrand m_askTied m_thoughtClaim m_thoughtNeed m_thoughtAll c_roundOf m_acts m_undone m_laid m_firstMove m_seens m_time m_waysNow m_fitting f) → (va_P D vwCl (wl ad f) H) → (va_D A (wl ad f)) → (va_S A s.heap H locs) → (lv_has ls 2 [(1, .int v74_l1), (0, .ref (ad 148))]) → W p l e (rmO 7 149 0 0) s m ([.ref (ad 148)] : List Value).toArray below meth c H locs 0 0 (MQ below (va_Qi (fun (r : Int32) (g : Nat → va_E) => (-1 ≤ r.toInt ∧ r.toInt ≤ 10) ∧ (∃ (c_text' : Nat → Int32) (m_taped' : Int32) (m_size' : Int32) (m_faultKind' : Int32) (m_faultPlace' : Int32) (m_at' : Int32) (m_end' : Int32) (m_token' : Int32) (m_number' : Int32) (m_name' : Int64) (c_points' : Nat → Int32) (c_strands' : Nat → Int32) (c_units' : Nat → Int32) (c_told' : Nat → Int32) (c_ruleFrom' : Nat → Int32) (c_ruleTo' : Nat → Int32) (c_code' : Nat → Int32) (c_eWhat' : Nat → Int32) (c_eSign' : Nat → Int32) (m_bank' : Int32) (m_rb' : Int32) (m_codes' : Int32) (m_within' : Int32) (m_piled' : Int32) (m_unitsInRule' : Int32) (m_acts' : Int32) (m_undone' : Int32) (m_laid' : Int32) (m_seens' : Int32), TYm ad cy fr0 c_text' m_taped' m_size' m_faultKind' m_faultPlace' m_at' m_end' m_token' m_number' m_name' c_points' c_strands' c_units' c_told' c_ruleFrom' c_ruleTo' c_code' c_eWhat' c_eSign' m_bank' m_rb' m_codes' m_within' m_piled' m_unitsInRule' m_askStrand m_askTied m_thoughtClaim m_thoughtNeed m_thoughtAll c_roundOf m_acts' m_undone' m_laid' m_firstMove m_seens' m_time m_waysNow m_fitting g ∧ (0 ≤ m_taped'.toInt ∧ m_taped'.toInt ≤ 0) ∧ (0 ≤ m_end'.toInt ∧ m_end'.toInt ≤ 1600) ∧ (m_acts'.toInt + m_undone'.toInt ≤ 40 ∧ 0 ≤ m_undone'.toInt) ∧ CVp c_told' c_ruleFrom' c_ruleTo' c_code' m_bank')) (fun g t => PstT D ad g t) A) ([.ref (ad 148)] : List Value).toArray s 0 0 A) (F0 m 74 ls []) := by
    intro N
    induction N with
    | zero => intro f H locs ls v74_l1 v74_p_c_text v74_p_m_faultKind v74_p_m_faultPlace v74_p_m_at v74_p_m_end v74_p_m_token v74_p_m_number v74_p_m_name v74_p_c_points v74_p_c_strands v74_p_c_units v74_p_c_told v74_p_c_ruleFrom v74_p_c_ruleTo v74_p_c_code v74_p_c_eWhat v74_p_c_eSign v74_p_m_rb v74_p_m_codes v74_p_m_within v74_p_m_piled v74_p_m_unitsInRule hN hv74_l1 hv74_p_m_end hJ74_0 hJ74_1 hJ74_2 hJ74_3 hPV hFr hF_told hF_ruleFrom hF_ruleTo hT hP hD hS hl; exact absurd hN (by omega)
    | succ N ih74 =>
      intro f H locs ls v74_l1 v74_p_c_text v74_p_m_faultKind v74_p_m_faultPlace v74_p_m_at v74_p_m_end v74_p_m_token v74_p_m_number v74_p_m_name v74_p_c_points v74_p_c_strands v74_p_c_units v74_p_c_told v74_p_c_ruleFrom v74_p_c_ruleTo v74_p_c_code v74_p_c_eWhat v74_p_c_eSign v74_p_m_rb v74_p_m_codes v74_p_m_within v74_p_m_piled v74_p_m_unitsInRule hN hv74_l1 hv74_p_m_end hJ74_0 hJ74_1 hJ74_2 hJ74_3 hPV hFr hF_told hF_ruleFrom hF_ruleTo hT hP hD hS hl
      refine lv_aload_n hx hb dX9_suit_74 rfl (lv_at hl 1 rfl) ?_
      obtain ⟨e16, h1, h2, h3, h4, h5, h6, h7, h8, h9, h10, h11, h12, h13, h14, h15⟩ := (show okX9 ad 0 m_taped v74_p_m_faultKind v74_p_m_faultPlace v74_p_m_at v74_p_m_end v74_p_m_token v74_p_m_number v74_p_m_name m_bank v74_p_m_rb v74_p_m_codes v74_p_m_within v74_p_m_piled v74_p_m_unitsInRule m_askStrand m_askTied m_thoughtClaim m_thoughtNeed m_thoughtAll m_acts m_undone m_laid m_firstMove m_seens m_time m_waysNow m_fitting 148 (f 148) from hT.1 148 (by decide))
      refine tVI (As := []) (rest := []) (i := 148) ⟨hx, hb, hml, hown, hts⟩ hK hE hP hD hS hA hAB (s_X9_isGood_0 l B0 adK adV D cy ad fr0 v74_p_c_text (0 : Int32) m_taped v74_p_m_faultKind v74_p_m_faultPlace v74_p_m_at v74_p_m_end v74_p_m_token v74_p_m_number v74_p_m_name v74_p_c_points v74_p_c_strands v74_p_c_units v74_p_c_told v74_p_c_ruleFrom v74_p_c_ruleTo v74_p_c_code v74_p_c_eWhat v74_p_c_eSign m_bank v74_p_m_rb v74_p_m_codes v74_p_m_within v74_p_m_piled v74_p_m_unitsInRule m_askStrand m_askTied m_thoughtClaim m_thoughtNeed m_thoughtAll c_roundOf m_acts m_undone m_laid m_firstMove m_seens m_time m_waysNow m_fitting f hT _) (cwV 0 hts gX9_suit_X9_isGood rfl rfl rfl (by decide +kernel) ⟨Nat.le_of_ble_eq_true rfl, Nat.le_of_ble_eq_true rfl⟩) (by decide) 9 e16 rfl rfl hl.1 rfl (Nat.le_of_ble_eq_true rfl) dX9_suit_75 ⟨Nat.le_of_ble_eq_true rfl, Nat.le_of_ble_eq_true rfl⟩ (fun r g H locs hw hP hD hS => ?_)
      obtain ⟨hrs, rfl⟩ := hw
      obtain ⟨x17, rfl⟩ : ∃ q, q = r := ⟨_, rfl⟩
      rcases hrs with ⟨rfl, h18⟩ | ⟨rfl, h19⟩
      · refine lv_if_eq (tgt := 95) hx hb dX9_suit_78 (by decide) (fun c => absurd c (by decide)) (fun _ => ?_)
        refine lv_aload_n hx hb dX9_suit_81 rfl (lv_at hl 1 rfl) ?_
        refine va_get (D := D) (cl := vwCl) (ci := 9) (v := .int v74_p_m_token) (C := RX9) (T := TX9) (N := 64) hx hb hts in_X9_suit_X9 hown hK hP 148 (wl_at (by decide) e16) rfl 8 (by decide) (hts (.fieldLink RX9 181 "EightReasonsModel" "token" "I") (List.mem_of_getElem? (i := 10) rfl)) (fun _ h9 => h9) rfl dX9_suit_82 ?_
        have ttl_0 := tl_0
        refine lv_if_eq (tgt := 95) hx hb dX9_suit_85 (by decide) (fun c20 => ?_) (fun c20 => ?_)
        · have kc20 := c_eq c20
          refine lv_aload_n hx hb dX9_suit_95 rfl (lv_at hl 1 rfl) ?_
          refine tVI (As := []) (rest := []) (i := 148) ⟨hx, hb, hml, hown, hts⟩ hK hE hP hD hS hA hAB (s_X9_isGood_0 l B0 adK adV D cy ad fr0 v74_p_c_text (0 : Int32) m_taped v74_p_m_faultKind v74_p_m_faultPlace v74_p_m_at v74_p_m_end v74_p_m_token v74_p_m_number v74_p_m_name v74_p_c_points v74_p_c_strands v74_p_c_units v74_p_c_told v74_p_c_ruleFrom v74_p_c_ruleTo v74_p_c_code v74_p_c_eWhat v74_p_c_eSign m_bank v74_p_m_rb v74_p_m_codes v74_p_m_within v74_p_m_piled v74_p_m_unitsInRule m_askStrand m_askTied m_thoughtClaim m_thoughtNeed m_thoughtAll c_roundOf m_acts m_undone m_laid m_firstMove m_seens m_time m_waysNow m_fitting f hT _) (cwV 0 hts gX9_suit_X9_isGood rfl rfl rfl (by decide +kernel) ⟨Nat.le_of_ble_eq_true rfl, Nat.le_of_ble_eq_true rfl⟩) (by decide) 9 e16 rfl rfl hl.1 rfl (Nat.le_of_ble_eq_true rfl) dX9_suit_96 ⟨Nat.le_of_ble_eq_true rfl, Nat.le_of_ble_eq_true rfl⟩ (fun r g H locs hw hP hD hS => ?_)
          obtain ⟨hrs, rfl⟩ := hw
          obtain ⟨x21, rfl⟩ : ∃ q, q = r := ⟨_, rfl⟩
          rcases hrs with ⟨rfl, h22⟩ | ⟨rfl, h23⟩
          · refine lv_if_ne (tgt := 104) hx hb dX9_suit_99 (by decide) (fun _ => ?_) (fun c => absurd c (by decide))
            refine lv_aload_n hx hb dX9_suit_104 rfl (lv_at hl 1 rfl) ?_
            refine lv_aload_n hx hb dX9_suit_105 rfl (lv_at hl 1 rfl) ?_
            refine va_get (D := D) (cl := vwCl) (ci := 9) (v := .int v74_p_m_rb) (C := RX9) (T := TX9) (N := 64) hx hb hts in_X9_suit_X9 hown hK hP 148 (wl_at (by decide) e16) rfl 30 (by decide) (hts (.fieldLink RX9 230 "EightReasonsModel" "rb" "I") (List.mem_of_getElem? (i := 9) rfl)) (fun _ h9 => h9) rfl dX9_suit_106 ?_
            refine va_put (D := D) (cl := vwCl) (ci := 9) (v := .int v74_p_m_rb) (ty := tyX9 29) (C := RX9) (T := TX9) (N := 64) hx hb hts in_X9_suit_X9 tyX9 tyX9_ok nmX9 hown hK hP hD hS 148 (wl_at (by decide) e16) rfl 29 (by decide) (hts (.fieldLink RX9 239 "EightReasonsModel" "bank" "I") (List.mem_of_getElem? (i := 8) rfl)) (fun _ h9 => h9) rfl (tyX9_ok 29 (by decide)) rfl rfl (Nat.le_of_ble_eq_true rfl) dX9_suit_109 (fun H locs hP hD hS => ?_)
            obtain ⟨f, hT, hP, hD, e24, hj25⟩ := stU (by decide) (TYm.p148 hT (show OKm ad cy v74_p_c_text 0 m_taped v74_p_m_faultKind v74_p_m_faultPlace v74_p_m_at v74_p_m_end v74_p_m_token v74_p_m_number v74_p_m_name v74_p_c_points v74_p_c_strands v74_p_c_units v74_p_c_told v74_p_c_ruleFrom v74_p_c_ruleTo v74_p_c_code v74_p_c_eWhat v74_p_c_eSign v74_p_m_rb v74_p_m_rb v74_p_m_codes v74_p_m_within v74_p_m_piled v74_p_m_unitsInRule m_askStrand m_askTied m_thoughtClaim m_thoughtNeed m_thoughtAll c_roundOf m_acts m_undone m_laid m_firstMove m_seens m_time m_waysNow m_fitting 148 _ from (show okX9 ad 0 m_taped v74_p_m_faultKind v74_p_m_faultPlace v74_p_m_at v74_p_m_end v74_p_m_token v74_p_m_number v74_p_m_name v74_p_m_rb v74_p_m_rb v74_p_m_codes v74_p_m_within v74_p_m_piled v74_p_m_unitsInRule m_askStrand m_askTied m_thoughtClaim m_thoughtNeed m_thoughtAll m_acts m_undone m_laid m_firstMove m_seens m_time m_waysNow m_fitting 148 _ from ⟨rfl, by omega, by omega, by omega, by omega, by omega, by omega, by omega, by omega, by omega, by omega, by omega, by omega, by omega, by omega, by omega⟩))) hP hD
            refine lv_aload_n hx hb dX9_suit_112 rfl (lv_at hl 1 rfl) ?_
            refine tVV (As := []) (rest := []) (i := 148) ⟨hx, hb, hml, hown, hts⟩ hK hE hP hD hS hA hAB (s_X9_startAnew_0 l B0 adK adV D cy ad fr0 v74_p_c_text (0 : Int32) m_taped v74_p_m_faultKind v74_p_m_faultPlace v74_p_m_at v74_p_m_end v74_p_m_token v74_p_m_number v74_p_m_name v74_p_c_points v74_p_c_strands v74_p_c_units v74_p_c_told v74_p_c_ruleFrom v74_p_c_ruleTo v74_p_c_code v74_p_c_eWhat v74_p_c_eSign v74_p_m_rb v74_p_m_rb v74_p_m_codes v74_p_m_within v74_p_m_piled v74_p_m_unitsInRule m_askStrand m_askTied m_thoughtClaim m_thoughtNeed m_thoughtAll c_roundOf m_acts m_undone m_laid m_firstMove m_seens m_time m_waysNow m_fitting f hT _) (cwV 0 hts gX9_suit_X9_startAnew rfl rfl rfl (by decide +kernel) ⟨Nat.le_of_ble_eq_true rfl, Nat.le_of_ble_eq_true rfl⟩) (by decide) 9 e24 rfl rfl hl.1 rfl (Nat.le_of_ble_eq_true rfl) dX9_suit_113 ⟨Nat.le_of_ble_eq_true rfl, Nat.le_of_ble_eq_true rfl⟩ (fun f H locs hw hP hD hS => ?_)
            obtain ⟨hrs, x26, x27, x28, x29, hT, h30, h31, h32, h33, h34⟩ := hw
            refine lv_aload_n hx hb dX9_suit_116 rfl (lv_at hl 1 rfl) ?_
            obtain ⟨e50, h35, h36, h37, h38, h39, h40, h41, h42, h43, h44, h45, h46, h47, h48, h49⟩ := (show okX9 ad 0 m_taped v74_p_m_faultKind v74_p_m_faultPlace v74_p_m_at v74_p_m_end v74_p_m_token v74_p_m_number v74_p_m_name v74_p_m_rb v74_p_m_rb v74_p_m_codes v74_p_m_within v74_p_m_piled v74_p_m_unitsInRule m_askStrand m_askTied m_thoughtClaim m_thoughtNeed m_thoughtAll x26 x27 x28 m_firstMove x29 m_time m_waysNow m_fitting 148 (f 148) from hT.1 148 (by decide))
            refine va_get (D := D) (cl := vwCl) (ci := 9) (v := .ref (ad 151)) (C := RX9) (T := TX9) (N := 64) hx hb hts in_X9_suit_X9 hown hK hP 148 (wl_at (by decide) e50) rfl 11 (by decide) (hts (.fieldLink RX9 20 "EightReasonsModel" "points" "[I") (List.mem_of_getElem? (i := 11) rfl)) (fun _ h9 => h9) rfl dX9_suit_117 ?_
            refine lv_aload_n hx hb dX9_suit_120 rfl (lv_at hl 1 rfl) ?_
            refine va_get (D := D) (cl := vwCl) (ci := 9) (v := .int v74_p_m_rb) (C := RX9) (T := TX9) (N := 64) hx hb hts in_X9_suit_X9 hown hK hP 148 (wl_at (by decide) e50) rfl 29 (by decide) (hts (.fieldLink RX9 239 "EightReasonsModel" "bank" "I") (List.mem_of_getElem? (i := 8) rfl)) (fun _ h9 => h9) rfl dX9_suit_121 ?_
            obtain ⟨e51, h52⟩ := (show okIpr cy 2 (0) (10) 1 0 v74_p_c_points (f 151) from hT.1 151 (by decide))
            refine va_iald hx hb hK hP 151 0 (wl_at (by decide) e51) rfl (vp_in_iff.mpr ⟨by omega, by omega⟩) dX9_suit_124 ?_
            refine lv_topi (fun x53 ex53 => ?_)
            have hx53 := r_el (h52 _ (Nat.mod_one _)) ex53
            have kx53 := congrArg Int32.toInt ex53
            exact tI hx hb hr hlk rfl hP hS ⟨(by omega), ⟨v74_p_c_text, (0 : Int32), m_taped, v74_p_m_faultKind, v74_p_m_faultPlace, v74_p_m_at, v74_p_m_end, v74_p_m_token, v74_p_m_number, v74_p_m_name, v74_p_c_points, v74_p_c_strands, v74_p_c_units, v74_p_c_told, v74_p_c_ruleFrom, v74_p_c_ruleTo, v74_p_c_code, v74_p_c_eWhat, v74_p_c_eSign, v74_p_m_rb, v74_p_m_rb, v74_p_m_codes, v74_p_m_within, v74_p_m_piled, v74_p_m_unitsInRule, x26, x27, x28, x29, hT, by omega, by omega, by omega, (by first | exact hPV.1 | exact CV_fr hCV hFr hF_told hF_ruleFrom hF_ruleTo (by omega) (by omega))⟩⟩ dX9_suit_125
          · exact False.elim (by omega)
        · have kc20 := c_ne c20
          refine lv_aload_n hx hb dX9_suit_88 rfl (lv_at hl 1 rfl) ?_
          refine tVV (As := []) (rest := []) (i := 148) ⟨hx, hb, hml, hown, hts⟩ hK hE hP hD hS hA hAB (s_X9_readLine_0 l B0 adK adV D cy ad fr0 v74_p_c_text (0 : Int32) m_taped v74_p_m_faultKind v74_p_m_faultPlace v74_p_m_at v74_p_m_end v74_p_m_token v74_p_m_number v74_p_m_name v74_p_c_points v74_p_c_strands v74_p_c_units v74_p_c_told v74_p_c_ruleFrom v74_p_c_ruleTo v74_p_c_code v74_p_c_eWhat v74_p_c_eSign m_bank v74_p_m_rb v74_p_m_codes v74_p_m_within v74_p_m_piled v74_p_m_unitsInRule m_askStrand m_askTied m_thoughtClaim m_thoughtNeed m_thoughtAll c_roundOf m_acts m_undone m_laid m_firstMove m_seens m_time m_waysNow m_fitting f hT (by omega) (by omega) (by omega) hPV _) (cwV 0 hts gX9_suit_X9_readLine rfl rfl rfl (by decide +kernel) ⟨Nat.le_of_ble_eq_true rfl, Nat.le_of_ble_eq_true rfl⟩) (by decide) 9 e16 rfl rfl hl.1 rfl (Nat.le_of_ble_eq_true rfl) dX9_suit_89 ⟨Nat.le_of_ble_eq_true rfl, Nat.le_of_ble_eq_true rfl⟩ (fun f H locs hw hP hD hS => ?_)
          obtain ⟨hrs, x54, x55, x56, x57, x58, x59, y60, y61, y62, y63, y64, y65, y66, y67, y68, y69, x70, x71, x72, x73, hT, h74, h75, h76, h77, hPV, hFr2, hF_told2, hF_ruleFrom2, hF_ruleTo2⟩ := hw
          have hFr := FrC_tr hFr hFr2
          have hF_told := Fr1_tr hF_told hF_told2
          have hF_ruleFrom := Fr1_tr hF_ruleFrom hF_ruleFrom2
          have hF_ruleTo := Fr1_tr hF_ruleTo hF_ruleTo2
          refine lv_goto (tgt := 74) hx hb dX9_suit_92 (by decide) ?_
          obtain ⟨e93, h78, h79, h80, h81, h82, h83, h84, h85, h86, h87, h88, h89, h90, h91, h92⟩ := (show okX9 ad 0 m_taped x54 x55 x56 x57 x58 x59 y60 m_bank v74_p_m_rb x70 x71 x72 x73 m_askStrand m_askTied m_thoughtClaim m_thoughtNeed m_thoughtAll m_acts m_undone m_laid m_firstMove m_seens m_time m_waysNow m_fitting 148 (f 148) from hT.1 148 (by decide))
          exact ih74 f H locs ls v74_l1 v74_p_c_text x54 x55 x56 x57 x58 x59 y60 y61 y62 y63 y64 y65 y66 y67 y68 y69 v74_p_m_rb x70 x71 x72 x73 (by omega) (by omega) (by omega) (by omega) (by omega) (by omega) (by omega) (hPV) (hFr) (hF_told) (hF_ruleFrom) (hF_ruleTo) hT hP hD hS (lv_sub hl [0, 1] rfl)
      · refine lv_if_eq (tgt := 95) hx hb dX9_suit_78 (by decide) (fun _ => ?_) (fun c => absurd (by decide) c)
        refine lv_aload_n hx hb dX9_suit_95 rfl (lv_at hl 1 rfl) ?_
        refine tVI (As := []) (rest := []) (i := 148) ⟨hx, hb, hml, hown, hts⟩ hK hE hP hD hS hA hAB (s_X9_isGood_0 l B0 adK adV D cy ad fr0 v74_p_c_text (0 : Int32) m_taped v74_p_m_faultKind v74_p_m_faultPlace v74_p_m_at v74_p_m_end v74_p_m_token v74_p_m_number v74_p_m_name v74_p_c_points v74_p_c_strands v74_p_c_units v74_p_c_told v74_p_c_ruleFrom v74_p_c_ruleTo v74_p_c_code v74_p_c_eWhat v74_p_c_eSign m_bank v74_p_m_rb v74_p_m_codes v74_p_m_within v74_p_m_piled v74_p_m_unitsInRule m_askStrand m_askTied m_thoughtClaim m_thoughtNeed m_thoughtAll c_roundOf m_acts m_undone m_laid m_firstMove m_seens m_time m_waysNow m_fitting f hT _) (cwV 0 hts gX9_suit_X9_isGood rfl rfl rfl (by decide +kernel) ⟨Nat.le_of_ble_eq_true rfl, Nat.le_of_ble_eq_true rfl⟩) (by decide) 9 e16 rfl rfl hl.1 rfl (Nat.le_of_ble_eq_true rfl) dX9_suit_96 ⟨Nat.le_of_ble_eq_true rfl, Nat.le_of_ble_eq_true rfl⟩ (fun r g H locs hw hP hD hS => ?_)
        obtain ⟨hrs, rfl⟩ := hw
        obtain ⟨x94, rfl⟩ : ∃ q, q = r := ⟨_, rfl⟩
        rcases hrs with ⟨rfl, h95⟩ | ⟨rfl, h96⟩
        · exact False.elim (by omega)
        · refine lv_if_ne (tgt := 104) hx hb dX9_suit_99 (by decide) (fun c => absurd (by decide) c) (fun _ => ?_)
          refine lv_iconst (v := (-1)) hx hb dX9_suit_102 (by decide) ?_
          have ttl_m1 := tl_m1
          have ttl_0 := tl_0
          exact tI hx hb hr hlk rfl hP hS ⟨(by omega), ⟨v74_p_c_text, (0 : Int32), m_taped, v74_p_m_faultKind, v74_p_m_faultPlace, v74_p_m_at, v74_p_m_end, v74_p_m_token, v74_p_m_number, v74_p_m_name, v74_p_c_points, v74_p_c_strands, v74_p_c_units, v74_p_c_told, v74_p_c_ruleFrom, v74_p_c_ruleTo, v74_p_c_code, v74_p_c_eWhat, v74_p_c_eSign, m_bank, v74_p_m_rb, v74_p_m_codes, v74_p_m_within, v74_p_m_piled, v74_p_m_unitsInRule, m_acts, m_undone, m_laid, m_seens, hT, by omega, by omega, by omega, (by first | exact hPV.1 | exact CV_fr hCV hFr hF_told hF_ruleFrom hF_ruleTo (by omega) (by omega))⟩⟩ dX9_suit_103
  have j20 : ∀ (N : Nat) (f : Nat → va_E) (H : Heap) (locs : List Loc) (ls : Array Slot) (v20_l1 : Int32) (v20_p_c_text : Nat → Int32), (1601 - v20_l1.toInt ≤ (N : Int)) → (0 ≤ v20_l1.toInt ∧ v20_l1.toInt ≤ 1600) → (TYm ad cy fr0 v20_p_c_text m_taped m_taped 0 (-1) m_at m_end m_token m_number m_name c_points c_strands c_units c_told c_ruleFrom c_ruleTo c_code c_eWhat c_eSign m_bank m_rb m_codes m_within m_piled m_unitsInRule m_askStrand m_askTied m_thoughtClaim m_thoughtNeed m_thoughtAll c_roundOf m_acts m_undone m_laid m_firstMove m_seens m_time m_waysNow m_fitting f) → (va_P D vwCl (wl ad f) H) → (va_D A (wl ad f)) → (va_S A s.heap H locs) → (lv_has ls 2 [(1, .int v20_l1), (0, .ref (ad 148))]) → W p l e (rmO 7 149 0 0) s m ([.ref (ad 148)] : List Value).toArray below meth c H locs 0 0 (MQ below (va_Qi (fun (r : Int32) (g : Nat → va_E) => (-1 ≤ r.toInt ∧ r.toInt ≤ 10) ∧ (∃ (c_text' : Nat → Int32) (m_taped' : Int32) (m_size' : Int32) (m_faultKind' : Int32) (m_faultPlace' : Int32) (m_at' : Int32) (m_end' : Int32) (m_token' : Int32) (m_number' : Int32) (m_name' : Int64) (c_points' : Nat → Int32) (c_strands' : Nat → Int32) (c_units' : Nat → Int32) (c_told' : Nat → Int32) (c_ruleFrom' : Nat → Int32) (c_ruleTo' : Nat → Int32) (c_code' : Nat → Int32) (c_eWhat' : Nat → Int32) (c_eSign' : Nat → Int32) (m_bank' : Int32) (m_rb' : Int32) (m_codes' : Int32) (m_within' : Int32) (m_piled' : Int32) (m_unitsInRule' : Int32) (m_acts' : Int32) (m_undone' : Int32) (m_laid' : Int32) (m_seens' : Int32), TYm ad cy fr0 c_text' m_taped' m_size' m_faultKind' m_faultPlace' m_at' m_end' m_token' m_number' m_name' c_points' c_strands' c_units' c_told' c_ruleFrom' c_ruleTo' c_code' c_eWhat' c_eSign' m_bank' m_rb' m_codes' m_within' m_piled' m_unitsInRule' m_askStrand m_askTied m_thoughtClaim m_thoughtNeed m_thoughtAll c_roundOf m_acts' m_undone' m_laid' m_firstMove m_seens' m_time m_waysNow m_fitting g ∧ (0 ≤ m_taped'.toInt ∧ m_taped'.toInt ≤ 0) ∧ (0 ≤ m_end'.toInt ∧ m_end'.toInt ≤ 1600) ∧ (m_acts'.toInt + m_undone'.toInt ≤ 40 ∧ 0 ≤ m_undone'.toInt) ∧ CVp c_told' c_ruleFrom' c_ruleTo' c_code' m_bank')) (fun g t => PstT D ad g t) A) ([.ref (ad 148)] : List Value).toArray s 0 0 A) (F0 m 20 ls []) := by
    intro N
    induction N with
    | zero => intro f H locs ls v20_l1 v20_p_c_text hN hv20_l1 hT hP hD hS hl; exact absurd hN (by omega)
    | succ N ih20 =>
      intro f H locs ls v20_l1 v20_p_c_text hN hv20_l1 hT hP hD hS hl
      refine lv_iload_n hx hb dX9_suit_20 rfl (lv_at hl 0 rfl) ?_
      refine lv_aload_n hx hb dX9_suit_21 rfl (lv_at hl 1 rfl) ?_
      obtain ⟨e112, h97, h98, h99, h100, h101, h102, h103, h104, h105, h106, h107, h108, h109, h110, h111⟩ := (show okX9 ad m_taped m_taped 0 (-1) m_at m_end m_token m_number m_name m_bank m_rb m_codes m_within m_piled m_unitsInRule m_askStrand m_askTied m_thoughtClaim m_thoughtNeed m_thoughtAll m_acts m_undone m_laid m_firstMove m_seens m_time m_waysNow m_fitting 148 (f 148) from hT.1 148 (by decide))
      refine va_get (D := D) (cl := vwCl) (ci := 9) (v := .int m_taped) (C := RX9) (T := TX9) (N := 64) hx hb hts in_X9_suit_X9 hown hK hP 148 (wl_at (by decide) e112) rfl 3 (by decide) (hts (.fieldLink RX9 137 "EightReasonsModel" "size" "I") (List.mem_of_getElem? (i := 4) rfl)) (fun _ h9 => h9) rfl dX9_suit_22 ?_
      refine lv_icmp_ge (tgt := 46) hx hb dX9_suit_25 (by decide) (fun c113 => ?_) (fun c113 => ?_)
      · have kc113 := c_le c113
        refine lv_aload_n hx hb dX9_suit_46 rfl (lv_at hl 1 rfl) ?_
        refine lv_iconst (v := 0) hx hb dX9_suit_47 (by decide) ?_
        refine va_put (D := D) (cl := vwCl) (ci := 9) (v := .int 0) (ty := tyX9 2) (C := RX9) (T := TX9) (N := 64) hx hb hts in_X9_suit_X9 tyX9 tyX9_ok nmX9 hown hK hP hD hS 148 (wl_at (by decide) e112) rfl 2 (by decide) (hts (.fieldLink RX9 236 "EightReasonsModel" "taped" "I") (List.mem_of_getElem? (i := 3) rfl)) (fun _ h9 => h9) rfl (tyX9_ok 2 (by decide)) rfl rfl (Nat.le_of_ble_eq_true rfl) dX9_suit_48 (fun H locs hP hD hS => ?_)
        have ttl_0 := tl_0
        obtain ⟨f, hT, hP, hD, e114, hj115⟩ := stU (by decide) (TYm.p148 hT (show OKm ad cy v20_p_c_text 0 m_taped 0 (-1) m_at m_end m_token m_number m_name c_points c_strands c_units c_told c_ruleFrom c_ruleTo c_code c_eWhat c_eSign m_bank m_rb m_codes m_within m_piled m_unitsInRule m_askStrand m_askTied m_thoughtClaim m_thoughtNeed m_thoughtAll c_roundOf m_acts m_undone m_laid m_firstMove m_seens m_time m_waysNow m_fitting 148 _ from (show okX9 ad 0 m_taped 0 (-1) m_at m_end m_token m_number m_name m_bank m_rb m_codes m_within m_piled m_unitsInRule m_askStrand m_askTied m_thoughtClaim m_thoughtNeed m_thoughtAll m_acts m_undone m_laid m_firstMove m_seens m_time m_waysNow m_fitting 148 _ from ⟨rfl, by omega, by omega, by omega, by omega, by omega, by omega, by omega, by omega, by omega, by omega, by omega, by omega, by omega, by omega, by omega⟩))) hP hD
        refine lv_aload_n hx hb dX9_suit_51 rfl (lv_at hl 1 rfl) ?_
        refine lv_iconst (v := 0) hx hb dX9_suit_52 (by decide) ?_
        refine va_put (D := D) (cl := vwCl) (ci := 9) (v := .int 0) (ty := tyX9 7) (C := RX9) (T := TX9) (N := 64) hx hb hts in_X9_suit_X9 tyX9 tyX9_ok nmX9 hown hK hP hD hS 148 (wl_at (by decide) e114) rfl 7 (by decide) (hts (.fieldLink RX9 171 "EightReasonsModel" "end" "I") (List.mem_of_getElem? (i := 7) rfl)) (fun _ h9 => h9) rfl (tyX9_ok 7 (by decide)) rfl rfl (Nat.le_of_ble_eq_true rfl) dX9_suit_53 (fun H locs hP hD hS => ?_)
        obtain ⟨f, hT, hP, hD, e116, hj117⟩ := stU (by decide) (TYm.p148 hT (show OKm ad cy v20_p_c_text 0 m_taped 0 (-1) m_at 0 m_token m_number m_name c_points c_strands c_units c_told c_ruleFrom c_ruleTo c_code c_eWhat c_eSign m_bank m_rb m_codes m_within m_piled m_unitsInRule m_askStrand m_askTied m_thoughtClaim m_thoughtNeed m_thoughtAll c_roundOf m_acts m_undone m_laid m_firstMove m_seens m_time m_waysNow m_fitting 148 _ from (show okX9 ad 0 m_taped 0 (-1) m_at 0 m_token m_number m_name m_bank m_rb m_codes m_within m_piled m_unitsInRule m_askStrand m_askTied m_thoughtClaim m_thoughtNeed m_thoughtAll m_acts m_undone m_laid m_firstMove m_seens m_time m_waysNow m_fitting 148 _ from ⟨rfl, by omega, by omega, by omega, by omega, by omega, by omega, by omega, by omega, by omega, by omega, by omega, by omega, by omega, by omega, by omega⟩))) hP hD
        refine lv_aload_n hx hb dX9_suit_56 rfl (lv_at hl 1 rfl) ?_
        refine lv_iconst (v := 1) hx hb dX9_suit_57 (by decide) ?_
        refine lv_aload_n hx hb dX9_suit_58 rfl (lv_at hl 1 rfl) ?_
        refine va_get (D := D) (cl := vwCl) (ci := 9) (v := .int m_bank) (C := RX9) (T := TX9) (N := 64) hx hb hts in_X9_suit_X9 hown hK hP 148 (wl_at (by decide) e116) rfl 29 (by decide) (hts (.fieldLink RX9 239 "EightReasonsModel" "bank" "I") (List.mem_of_getElem? (i := 8) rfl)) (fun _ h9 => h9) rfl dX9_suit_59 ?_
        have ttl_1 := tl_1
        refine lv_isub hx hb dX9_suit_62 ?_
        refine lv_topi (fun x118 ex118 => ?_)
        have hx118 := r_sub ex118 (by omega) (by omega)
        refine va_put (D := D) (cl := vwCl) (ci := 9) (v := .int x118) (ty := tyX9 30) (C := RX9) (T := TX9) (N := 64) hx hb hts in_X9_suit_X9 tyX9 tyX9_ok nmX9 hown hK hP hD hS 148 (wl_at (by decide) e116) rfl 30 (by decide) (hts (.fieldLink RX9 230 "EightReasonsModel" "rb" "I") (List.mem_of_getElem? (i := 9) rfl)) (fun _ h9 => h9) rfl (tyX9_ok 30 (by decide)) rfl rfl (Nat.le_of_ble_eq_true rfl) dX9_suit_63 (fun H locs hP hD hS => ?_)
        obtain ⟨f, hT, hP, hD, e119, hj120⟩ := stU (by decide) (TYm.p148 hT (show OKm ad cy v20_p_c_text 0 m_taped 0 (-1) m_at 0 m_token m_number m_name c_points c_strands c_units c_told c_ruleFrom c_ruleTo c_code c_eWhat c_eSign m_bank x118 m_codes m_within m_piled m_unitsInRule m_askStrand m_askTied m_thoughtClaim m_thoughtNeed m_thoughtAll c_roundOf m_acts m_undone m_laid m_firstMove m_seens m_time m_waysNow m_fitting 148 _ from (show okX9 ad 0 m_taped 0 (-1) m_at 0 m_token m_number m_name m_bank x118 m_codes m_within m_piled m_unitsInRule m_askStrand m_askTied m_thoughtClaim m_thoughtNeed m_thoughtAll m_acts m_undone m_laid m_firstMove m_seens m_time m_waysNow m_fitting 148 _ from ⟨rfl, by omega, by omega, by omega, by omega, by omega, by omega, by omega, by omega, by omega, by omega, by omega, by omega, by omega, by omega, by omega⟩))) hP hD
        refine lv_aload_n hx hb dX9_suit_66 rfl (lv_at hl 1 rfl) ?_
        refine tVV (As := []) (rest := []) (i := 148) ⟨hx, hb, hml, hown, hts⟩ hK hE hP hD hS hA hAB (s_X9_clearBank_0 l B0 adK adV D cy ad fr0 v20_p_c_text (0 : Int32) m_taped (0 : Int32) ((-1) : Int32) m_at (0 : Int32) m_token m_number m_name c_points c_strands c_units c_told c_ruleFrom c_ruleTo c_code c_eWhat c_eSign m_bank x118 m_codes m_within m_piled m_unitsInRule m_askStrand m_askTied m_thoughtClaim m_thoughtNeed m_thoughtAll c_roundOf m_acts m_undone m_laid m_firstMove m_seens m_time m_waysNow m_fitting f hT _) (cwV 0 hts gX9_suit_X9_clearBank rfl rfl rfl (by decide +kernel) ⟨Nat.le_of_ble_eq_true rfl, Nat.le_of_ble_eq_true rfl⟩) (by decide) 9 e119 rfl rfl hl.1 rfl (Nat.le_of_ble_eq_true rfl) dX9_suit_67 ⟨Nat.le_of_ble_eq_true rfl, Nat.le_of_ble_eq_true rfl⟩ (fun f H locs hw hP hD hS => ?_)
        obtain ⟨hrs, y121, y122, y123, y124, x125, hT, h126, h127, h128, hF_told2⟩ := hw
        have hFr := FrC_rf c_code x118
        have hF_told := hF_told2
        have hF_ruleFrom := Fr1_rf c_ruleFrom x118
        have hF_ruleTo := Fr1_rf c_ruleTo x118
        have hPV : PV y124 c_ruleFrom c_ruleTo c_code x125 x118 := ⟨fun q => absurd q (by omega), fun _ => by omega⟩
        refine lv_aload_n hx hb dX9_suit_70 rfl (lv_at hl 1 rfl) ?_
        have ttl_m1 := tl_m1
        obtain ⟨e144, h129, h130, h131, h132, h133, h134, h135, h136, h137, h138, h139, h140, h141, h142, h143⟩ := (show okX9 ad 0 m_taped 0 (-1) m_at 0 m_token m_number m_name m_bank x118 x125 m_within m_piled m_unitsInRule m_askStrand m_askTied m_thoughtClaim m_thoughtNeed m_thoughtAll m_acts m_undone m_laid m_firstMove m_seens m_time m_waysNow m_fitting 148 (f 148) from hT.1 148 (by decide))
        refine tVV (As := []) (rest := []) (i := 148) ⟨hx, hb, hml, hown, hts⟩ hK hE hP hD hS hA hAB (s_X9_goOn_0 l B0 adK adV D cy ad fr0 v20_p_c_text (0 : Int32) m_taped (0 : Int32) ((-1) : Int32) m_at (0 : Int32) m_token m_number m_name y121 y122 y123 y124 c_ruleFrom c_ruleTo c_code c_eWhat c_eSign m_bank x118 x125 m_within m_piled m_unitsInRule m_askStrand m_askTied m_thoughtClaim m_thoughtNeed m_thoughtAll c_roundOf m_acts m_undone m_laid m_firstMove m_seens m_time m_waysNow m_fitting f hT (by omega) (by omega) _) (cwV 0 hts gX9_suit_X9_goOn rfl rfl rfl (by decide +kernel) ⟨Nat.le_of_ble_eq_true rfl, Nat.le_of_ble_eq_true rfl⟩) (by decide) 9 e144 rfl rfl hl.1 rfl (Nat.le_of_ble_eq_true rfl) dX9_suit_71 ⟨Nat.le_of_ble_eq_true rfl, Nat.le_of_ble_eq_true rfl⟩ (fun f H locs hw hP hD hS => ?_)
        obtain ⟨hrs, x145, x146, x147, x148, y149, hT, h150, h151, h152⟩ := hw
        obtain ⟨e168, h153, h154, h155, h156, h157, h158, h159, h160, h161, h162, h163, h164, h165, h166, h167⟩ := (show okX9 ad 0 m_taped 0 (-1) x145 x146 x147 x148 y149 m_bank x118 x125 m_within m_piled m_unitsInRule m_askStrand m_askTied m_thoughtClaim m_thoughtNeed m_thoughtAll m_acts m_undone m_laid m_firstMove m_seens m_time m_waysNow m_fitting 148 (f 148) from hT.1 148 (by decide))
        exact j74 (Int.toNat (6 * (1602 - x145.toInt) - (0 : Int32).toInt)) f H locs ls v20_l1 v20_p_c_text (0 : Int32) ((-1) : Int32) x145 x146 x147 x148 y149 y121 y122 y123 y124 c_ruleFrom c_ruleTo c_code c_eWhat c_eSign x118 x125 m_within m_piled m_unitsInRule (by omega) (by omega) (by omega) (by omega) (by omega) (by omega) (by omega) (hPV) (hFr) (hF_told) (hF_ruleFrom) (hF_ruleTo) hT hP hD hS (lv_sub hl [0, 1] rfl)
      · have kc113 := c_nle c113
        refine lv_aload_n hx hb dX9_suit_28 rfl (lv_at hl 1 rfl) ?_
        refine va_get (D := D) (cl := vwCl) (ci := 9) (v := .ref (ad 150)) (C := RX9) (T := TX9) (N := 64) hx hb hts in_X9_suit_X9 hown hK hP 148 (wl_at (by decide) e112) rfl 1 (by decide) (hts (.fieldLink RX9 13 "EightReasonsModel" "text" "[B") (List.mem_of_getElem? (i := 5) rfl)) (fun _ h9 => h9) rfl dX9_suit_29 ?_
        refine lv_iload_n hx hb dX9_suit_32 rfl (lv_at hl 0 rfl) ?_
        refine lv_aload_n hx hb dX9_suit_33 rfl (lv_at hl 1 rfl) ?_
        refine va_get (D := D) (cl := vwCl) (ci := 9) (v := .ref (ad 149)) (C := RX9) (T := TX9) (N := 64) hx hb hts in_X9_suit_X9 hown hK hP 148 (wl_at (by decide) e112) rfl 0 (by decide) (hts (.fieldLink RX9 7 "EightReasonsModel" "tape" "[B") (List.mem_of_getElem? (i := 6) rfl)) (fun _ h9 => h9) rfl dX9_suit_34 ?_
        refine lv_iload_n hx hb dX9_suit_37 rfl (lv_at hl 0 rfl) ?_
        obtain ⟨g170, e169⟩ := (show okB cy 1620 (f 149) from hT.1 149 (by decide))
        refine va_bald hx hb hK hP 149 1 (wl_at (by decide) e169) rfl (vp_in_iff.mpr ⟨by omega, by omega⟩) dX9_suit_38 ?_
        refine lv_topi (fun x171 ex171 => ?_)
        have e172 : f 150 = _ := (show okBp cy 1600 v20_p_c_text (f 150) from hT.1 150 (by decide))
        refine va_bast hx hb hK hP hD hS 150 1 (wl_at (by decide) e172) rfl (vp_in_iff.mpr ⟨by omega, by omega⟩) dX9_suit_39 (fun H locs hP hD hS => ?_)
        obtain ⟨c173, ec173⟩ : ∃ q, q = upd v20_p_c_text (Int32.toNatClampNeg v20_l1) (vp_nar .byte x171) := ⟨_, rfl⟩
        rw [← ec173] at hP hD
        obtain ⟨f, hT, hP, hD, e174, hj175⟩ := stU (by decide) (TYm.p150 hT (show OKm ad cy c173 m_taped m_taped 0 (-1) m_at m_end m_token m_number m_name c_points c_strands c_units c_told c_ruleFrom c_ruleTo c_code c_eWhat c_eSign m_bank m_rb m_codes m_within m_piled m_unitsInRule m_askStrand m_askTied m_thoughtClaim m_thoughtNeed m_thoughtAll c_roundOf m_acts m_undone m_laid m_firstMove m_seens m_time m_waysNow m_fitting 150 _ from (show okBp cy 1600 c173 _ from rfl))) hP hD
        have e176 := (hj175 148 (by decide)).trans e112
        have e177 := (hj175 149 (by decide)).trans e169
        obtain ⟨x178, ex178⟩ : ∃ q : Int32, q = v20_l1 + Int32.ofInt (1) := ⟨_, rfl⟩
        refine lv_iinc (v := x178) (lv' := [(1, .int x178), (0, .ref (ad 148))]) hx hb dX9_suit_40 hl (k := 0) rfl ex178.symm (by decide) rfl (fun ls hl => ?_)
        have hx178 := r_inc ex178 (by decide) (by omega) (by omega)
        refine lv_goto (tgt := 20) hx hb dX9_suit_43 (by decide) ?_
        have ttl_0 := tl_0
        have ttl_m1 := tl_m1
        exact ih20 f H locs ls x178 c173 (by omega) (by omega) hT hP hD hS (lv_sub hl [0, 1] rfl)
  refine lv_aload_n hx hb dX9_suit_0 rfl (lv_at hl 0 rfl) ?_
  refine lv_iconst (v := 0) hx hb dX9_suit_1 (by decide) ?_
  obtain ⟨e194, h179, h180, h181, h182, h183, h184, h185, h186, h187, h188, h189, h190, h191, h192, h193⟩ := (show okX9 ad m_taped m_size m_faultKind m_faultPlace m_at m_end m_token m_number m_name m_bank m_rb m_codes m_within m_piled m_unitsInRule m_askStrand m_askTied m_thoughtClaim m_thoughtNeed m_thoughtAll m_acts m_undone m_laid m_firstMove m_seens m_time m_waysNow m_fitting 148 (f 148) from hT.1 148 (by decide))
  refine va_put (D := D) (cl := vwCl) (ci := 9) (v := .int 0) (ty := tyX9 4) (C := RX9) (T := TX9) (N := 64) hx hb hts in_X9_suit_X9 tyX9 tyX9_ok nmX9 hown hK hP hD hS 148 (wl_at (by decide) e194) rfl 4 (by decide) (hts (.fieldLink RX9 140 "EightReasonsModel" "faultKind" "I") (List.mem_of_getElem? (i := 1) rfl)) (fun _ h9 => h9) rfl (tyX9_ok 4 (by decide)) rfl rfl (Nat.le_of_ble_eq_true rfl) dX9_suit_2 (fun H locs hP hD hS => ?_)
  have ttl_0 := tl_0
  obtain ⟨f, hT, hP, hD, e195, hj196⟩ := stU (by decide) (TYm.p148 hT (show OKm ad cy c_text m_taped m_size 0 m_faultPlace m_at m_end m_token m_number m_name c_points c_strands c_units c_told c_ruleFrom c_ruleTo c_code c_eWhat c_eSign m_bank m_rb m_codes m_within m_piled m_unitsInRule m_askStrand m_askTied m_thoughtClaim m_thoughtNeed m_thoughtAll c_roundOf m_acts m_undone m_laid m_firstMove m_seens m_time m_waysNow m_fitting 148 _ from (show okX9 ad m_taped m_size 0 m_faultPlace m_at m_end m_token m_number m_name m_bank m_rb m_codes m_within m_piled m_unitsInRule m_askStrand m_askTied m_thoughtClaim m_thoughtNeed m_thoughtAll m_acts m_undone m_laid m_firstMove m_seens m_time m_waysNow m_fitting 148 _ from ⟨rfl, by omega, by omega, by omega, by omega, by omega, by omega, by omega, by omega, by omega, by omega, by omega, by omega, by omega, by omega, by omega⟩))) hP hD
  refine lv_aload_n hx hb dX9_suit_5 rfl (lv_at hl 0 rfl) ?_
  refine lv_iconst (v := (-1)) hx hb dX9_suit_6 (by decide) ?_
  refine va_put (D := D) (cl := vwCl) (ci := 9) (v := .int (-1)) (ty := tyX9 5) (C := RX9) (T := TX9) (N := 64) hx hb hts in_X9_suit_X9 tyX9 tyX9_ok nmX9 hown hK hP hD hS 148 (wl_at (by decide) e195) rfl 5 (by decide) (hts (.fieldLink RX9 16 "EightReasonsModel" "faultPlace" "I") (List.mem_of_getElem? (i := 2) rfl)) (fun _ h9 => h9) rfl (tyX9_ok 5 (by decide)) rfl rfl (Nat.le_of_ble_eq_true rfl) dX9_suit_7 (fun H locs hP hD hS => ?_)
  obtain ⟨f, hT, hP, hD, e197, hj198⟩ := stU (by decide) (TYm.p148 hT (show OKm ad cy c_text m_taped m_size 0 (-1) m_at m_end m_token m_number m_name c_points c_strands c_units c_told c_ruleFrom c_ruleTo c_code c_eWhat c_eSign m_bank m_rb m_codes m_within m_piled m_unitsInRule m_askStrand m_askTied m_thoughtClaim m_thoughtNeed m_thoughtAll c_roundOf m_acts m_undone m_laid m_firstMove m_seens m_time m_waysNow m_fitting 148 _ from (show okX9 ad m_taped m_size 0 (-1) m_at m_end m_token m_number m_name m_bank m_rb m_codes m_within m_piled m_unitsInRule m_askStrand m_askTied m_thoughtClaim m_thoughtNeed m_thoughtAll m_acts m_undone m_laid m_firstMove m_seens m_time m_waysNow m_fitting 148 _ from ⟨rfl, by omega, by omega, by omega, by omega, by omega, by omega, by omega, by omega, by omega, by omega, by omega, by omega, by omega, by omega, by omega⟩))) hP hD
  refine lv_aload_n hx hb dX9_suit_10 rfl (lv_at hl 0 rfl) ?_
  refine lv_aload_n hx hb dX9_suit_11 rfl (lv_at hl 0 rfl) ?_
  refine va_get (D := D) (cl := vwCl) (ci := 9) (v := .int m_taped) (C := RX9) (T := TX9) (N := 64) hx hb hts in_X9_suit_X9 hown hK hP 148 (wl_at (by decide) e197) rfl 2 (by decide) (hts (.fieldLink RX9 236 "EightReasonsModel" "taped" "I") (List.mem_of_getElem? (i := 3) rfl)) (fun _ h9 => h9) rfl dX9_suit_12 ?_
  refine va_put (D := D) (cl := vwCl) (ci := 9) (v := .int m_taped) (ty := tyX9 3) (C := RX9) (T := TX9) (N := 64) hx hb hts in_X9_suit_X9 tyX9 tyX9_ok nmX9 hown hK hP hD hS 148 (wl_at (by decide) e197) rfl 3 (by decide) (hts (.fieldLink RX9 137 "EightReasonsModel" "size" "I") (List.mem_of_getElem? (i := 4) rfl)) (fun _ h9 => h9) rfl (tyX9_ok 3 (by decide)) rfl rfl (Nat.le_of_ble_eq_true rfl) dX9_suit_15 (fun H locs hP hD hS => ?_)
  obtain ⟨f, hT, hP, hD, e199, hj200⟩ := stU (by decide) (TYm.p148 hT (show OKm ad cy c_text m_taped m_taped 0 (-1) m_at m_end m_token m_number m_name c_points c_strands c_units c_told c_ruleFrom c_ruleTo c_code c_eWhat c_eSign m_bank m_rb m_codes m_within m_piled m_unitsInRule m_askStrand m_askTied m_thoughtClaim m_thoughtNeed m_thoughtAll c_roundOf m_acts m_undone m_laid m_firstMove m_seens m_time m_waysNow m_fitting 148 _ from (show okX9 ad m_taped m_taped 0 (-1) m_at m_end m_token m_number m_name m_bank m_rb m_codes m_within m_piled m_unitsInRule m_askStrand m_askTied m_thoughtClaim m_thoughtNeed m_thoughtAll m_acts m_undone m_laid m_firstMove m_seens m_time m_waysNow m_fitting 148 _ from ⟨rfl, by omega, by omega, by omega, by omega, by omega, by omega, by omega, by omega, by omega, by omega, by omega, by omega, by omega, by omega, by omega⟩))) hP hD
  refine lv_iconst (v := 0) hx hb dX9_suit_18 (by decide) ?_
  refine lv_istore_n (lv' := [(1, .int 0), (0, .ref (ad 148))]) hx hb dX9_suit_19 rfl hl (by decide) rfl (fun ls hl => ?_)
  have ttl_m1 := tl_m1
  exact j20 (Int.toNat (1601 - (0 : Int32).toInt)) f H locs ls (0 : Int32) c_text (by omega) (by omega) hT hP hD hS (lv_sub hl [0, 1] rfl)
set_option maxHeartbeats 4000000 in
set_option maxRecDepth 100000 in
theorem s_X9_fault_0 (l : Launch) (B0 : Nat) (adK adV : Nat → Nat) (D : va_G) (cy : Nat → ClassId) (ad : Nat → Nat) (fr0 : Nat → va_E) (c_text : Nat → Int32) (m_taped : Int32) (m_size : Int32) (m_faultKind : Int32) (m_faultPlace : Int32) (m_at : Int32) (m_end : Int32) (m_token : Int32) (m_number : Int32) (m_name : Int64) (c_points : Nat → Int32) (c_strands : Nat → Int32) (c_units : Nat → Int32) (c_told : Nat → Int32) (c_ruleFrom : Nat → Int32) (c_ruleTo : Nat → Int32) (c_code : Nat → Int32) (c_eWhat : Nat → Int32) (c_eSign : Nat → Int32) (m_bank : Int32) (m_rb : Int32) (m_codes : Int32) (m_within : Int32) (m_piled : Int32) (m_unitsInRule : Int32) (m_askStrand : Int32) (m_askTied : Int32) (m_thoughtClaim : Int32) (m_thoughtNeed : Int32) (m_thoughtAll : Int32) (c_roundOf : Nat → Int32) (m_acts : Int32) (m_undone : Int32) (m_laid : Int32) (m_firstMove : Int32) (m_seens : Int32) (m_time : Int32) (m_waysNow : Int32) (m_fitting : Int32) (f : Nat → va_E) (hT : TYm ad cy fr0 c_text m_taped m_size m_faultKind m_faultPlace m_at m_end m_token m_number m_name c_points c_strands c_units c_told c_ruleFrom c_ruleTo c_code c_eWhat c_eSign m_bank m_rb m_codes m_within m_piled m_unitsInRule m_askStrand m_askTied m_thoughtClaim m_thoughtNeed m_thoughtAll c_roundOf m_acts m_undone m_laid m_firstMove m_seens m_time m_waysNow m_fitting f) (p1 : Int32) (sz : Nat) : TtI l yX9_fault wsX9_fault 0 0 [.ref (ad 148), .int p1] B0 adK adV D cy ad f sz (fun (r : Int32) (g : Nat → va_E) => True ∧ (f = g)) := by
  refine TtI.of (cc := cX9_fault) (maxL := 2) (ty := .int) (own := RX9) (by decide) rfl (Nat.le_of_ble_eq_true rfl) rfl ?_
  intro p e s m below meth c A ls hx hb hr hml hts hown hlk hK hE hP hD hS hA hAB hl
  have hl : lv_has ls 2 [(0, .ref (ad 148)), (1, .int p1)] := hl
  refine st0 (fun H locs hP hS => ?_) hP hS
  refine lv_iload_n hx hb dX9_fault_0 rfl (lv_at hl 1 rfl) ?_
  have ttl_0 := tl_0
  refine lv_if_ne (tgt := 11) hx hb dX9_fault_1 (by decide) (fun c1 => ?_) (fun c1 => ?_)
  · have kc1 := c_ne c1
    refine lv_iload_n hx hb dX9_fault_11 rfl (lv_at hl 1 rfl) ?_
    refine lv_iconst (v := 1) hx hb dX9_fault_12 (by decide) ?_
    have ttl_1 := tl_1
    refine lv_icmp_ne (tgt := 23) hx hb dX9_fault_13 (by decide) (fun c2 => ?_) (fun c2 => ?_)
    · have kc2 := c_ne c2
      refine lv_iconst (v := (-1)) hx hb dX9_fault_23 (by decide) ?_
      have ttl_m1 := tl_m1
      exact tI hx hb hr hlk rfl hP hS ⟨trivial, rfl⟩ dX9_fault_24
    · have kc2 := c_eq c2
      refine lv_aload_n hx hb dX9_fault_16 rfl (lv_at hl 0 rfl) ?_
      obtain ⟨e18, h3, h4, h5, h6, h7, h8, h9, h10, h11, h12, h13, h14, h15, h16, h17⟩ := (show okX9 ad m_taped m_size m_faultKind m_faultPlace m_at m_end m_token m_number m_name m_bank m_rb m_codes m_within m_piled m_unitsInRule m_askStrand m_askTied m_thoughtClaim m_thoughtNeed m_thoughtAll m_acts m_undone m_laid m_firstMove m_seens m_time m_waysNow m_fitting 148 (f 148) from hT.1 148 (by decide))
      refine va_get (D := D) (cl := vwCl) (ci := 9) (v := .int m_faultPlace) (C := RX9) (T := TX9) (N := 64) hx hb hts in_X9_fault_X9 hown hK hP 148 (wl_at (by decide) e18) rfl 5 (by decide) (hts (.fieldLink RX9 16 "EightReasonsModel" "faultPlace" "I") (List.mem_of_getElem? (i := 2) rfl)) (fun _ h9 => h9) rfl dX9_fault_17 ?_
      refine lv_goto (tgt := 24) hx hb dX9_fault_20 (by decide) ?_
      exact tI hx hb hr hlk rfl hP hS ⟨trivial, rfl⟩ dX9_fault_24
  · have kc1 := c_eq c1
    refine lv_aload_n hx hb dX9_fault_4 rfl (lv_at hl 0 rfl) ?_
    obtain ⟨e34, h19, h20, h21, h22, h23, h24, h25, h26, h27, h28, h29, h30, h31, h32, h33⟩ := (show okX9 ad m_taped m_size m_faultKind m_faultPlace m_at m_end m_token m_number m_name m_bank m_rb m_codes m_within m_piled m_unitsInRule m_askStrand m_askTied m_thoughtClaim m_thoughtNeed m_thoughtAll m_acts m_undone m_laid m_firstMove m_seens m_time m_waysNow m_fitting 148 (f 148) from hT.1 148 (by decide))
    refine va_get (D := D) (cl := vwCl) (ci := 9) (v := .int m_faultKind) (C := RX9) (T := TX9) (N := 64) hx hb hts in_X9_fault_X9 hown hK hP 148 (wl_at (by decide) e34) rfl 4 (by decide) (hts (.fieldLink RX9 140 "EightReasonsModel" "faultKind" "I") (List.mem_of_getElem? (i := 1) rfl)) (fun _ h9 => h9) rfl dX9_fault_5 ?_
    refine lv_goto (tgt := 24) hx hb dX9_fault_8 (by decide) ?_
    exact tI hx hb hr hlk rfl hP hS ⟨trivial, rfl⟩ dX9_fault_24
set_option maxHeartbeats 4000000 in
set_option maxRecDepth 100000 in
theorem s_X9_isIn_0 (l : Launch) (B0 : Nat) (adK adV : Nat → Nat) (D : va_G) (cy : Nat → ClassId) (ad : Nat → Nat) (f : Nat → va_E) (p0 : Int32) (p1 : Int32) (hp1 : 0 ≤ p1.toInt ∧ p1.toInt ≤ 1) (p2 : Int32) (hp2 : -1 ≤ p2.toInt ∧ p2.toInt ≤ 4095) (sz : Nat) : TtI l yX9_isIn wsX9_isIn 0 0 [.int p0, .int p1, .int p2] B0 adK adV D cy ad f sz (fun (r : Int32) (g : Nat → va_E) => ((r = 1 ∧ p1.toInt ≤ p0.toInt ∧ p0.toInt ≤ p2.toInt) ∨ (r = 0)) ∧ (f = g)) := by
  refine TtI.of (cc := cX9_isIn) (maxL := 3) (ty := .boolean) (own := RX9) (by decide) rfl (Nat.le_of_ble_eq_true rfl) rfl ?_
  intro p e s m below meth c A ls hx hb hr hml hts hown hlk hK hE hP hD hS hA hAB hl
  have hl : lv_has ls 3 [(0, .int p0), (1, .int p1), (2, .int p2)] := hl
  refine st0 (fun H locs hP hS => ?_) hP hS
  refine lv_iload_n hx hb dX9_isIn_0 rfl (lv_at hl 0 rfl) ?_
  refine lv_iload_n hx hb dX9_isIn_1 rfl (lv_at hl 1 rfl) ?_
  refine lv_icmp_lt (tgt := 14) hx hb dX9_isIn_2 (by decide) (fun c1 => ?_) (fun c1 => ?_)
  · have kc1 := c_lt c1
    refine lv_iconst (v := 0) hx hb dX9_isIn_14 (by decide) ?_
    have ttl_0 := tl_0
    exact tI hx hb hr hlk rfl hP hS ⟨(Or.inr rfl), rfl⟩ dX9_isIn_15
  · have kc1 := c_nlt c1
    refine lv_iload_n hx hb dX9_isIn_5 rfl (lv_at hl 0 rfl) ?_
    refine lv_iload_n hx hb dX9_isIn_6 rfl (lv_at hl 2 rfl) ?_
    refine lv_icmp_gt (tgt := 14) hx hb dX9_isIn_7 (by decide) (fun c2 => ?_) (fun c2 => ?_)
    · have kc2 := c_lt c2
      refine lv_iconst (v := 0) hx hb dX9_isIn_14 (by decide) ?_
      have ttl_0 := tl_0
      exact tI hx hb hr hlk rfl hP hS ⟨(Or.inr rfl), rfl⟩ dX9_isIn_15
    · have kc2 := c_nlt c2
      refine lv_iconst (v := 1) hx hb dX9_isIn_10 (by decide) ?_
      refine lv_goto (tgt := 15) hx hb dX9_isIn_11 (by decide) ?_
      have ttl_1 := tl_1
      exact tI hx hb hr hlk rfl hP hS ⟨(Or.inl ⟨rfl, by omega, by omega⟩), rfl⟩ dX9_isIn_15
set_option maxHeartbeats 4000000 in
set_option maxRecDepth 100000 in
theorem s_X9_many_0 (l : Launch) (B0 : Nat) (adK adV : Nat → Nat) (D : va_G) (cy : Nat → ClassId) (ad : Nat → Nat) (fr0 : Nat → va_E) (c_text : Nat → Int32) (m_taped : Int32) (m_size : Int32) (m_faultKind : Int32) (m_faultPlace : Int32) (m_at : Int32) (m_end : Int32) (m_token : Int32) (m_number : Int32) (m_name : Int64) (c_points : Nat → Int32) (c_strands : Nat → Int32) (c_units : Nat → Int32) (c_told : Nat → Int32) (c_ruleFrom : Nat → Int32) (c_ruleTo : Nat → Int32) (c_code : Nat → Int32) (c_eWhat : Nat → Int32) (c_eSign : Nat → Int32) (m_bank : Int32) (m_rb : Int32) (m_codes : Int32) (m_within : Int32) (m_piled : Int32) (m_unitsInRule : Int32) (m_askStrand : Int32) (m_askTied : Int32) (m_thoughtClaim : Int32) (m_thoughtNeed : Int32) (m_thoughtAll : Int32) (c_roundOf : Nat → Int32) (m_acts : Int32) (m_undone : Int32) (m_laid : Int32) (m_firstMove : Int32) (m_seens : Int32) (m_time : Int32) (m_waysNow : Int32) (m_fitting : Int32) (f : Nat → va_E) (hT : TYm ad cy fr0 c_text m_taped m_size m_faultKind m_faultPlace m_at m_end m_token m_number m_name c_points c_strands c_units c_told c_ruleFrom c_ruleTo c_code c_eWhat c_eSign m_bank m_rb m_codes m_within m_piled m_unitsInRule m_askStrand m_askTied m_thoughtClaim m_thoughtNeed m_thoughtAll c_roundOf m_acts m_undone m_laid m_firstMove m_seens m_time m_waysNow m_fitting f) (sz : Nat) : TtI l yX9_many wsX9_many 0 0 [.ref (ad 148)] B0 adK adV D cy ad f sz (fun (r : Int32) (g : Nat → va_E) => (0 ≤ r.toInt ∧ r.toInt ≤ 10) ∧ (f = g)) := by
  refine TtI.of (cc := cX9_many) (maxL := 1) (ty := .int) (own := RX9) (by decide) rfl (Nat.le_of_ble_eq_true rfl) rfl ?_
  intro p e s m below meth c A ls hx hb hr hml hts hown hlk hK hE hP hD hS hA hAB hl
  have hl : lv_has ls 1 [(0, .ref (ad 148))] := hl
  refine st0 (fun H locs hP hS => ?_) hP hS
  refine lv_aload_n hx hb dX9_many_0 rfl (lv_at hl 0 rfl) ?_
  obtain ⟨e16, h1, h2, h3, h4, h5, h6, h7, h8, h9, h10, h11, h12, h13, h14, h15⟩ := (show okX9 ad m_taped m_size m_faultKind m_faultPlace m_at m_end m_token m_number m_name m_bank m_rb m_codes m_within m_piled m_unitsInRule m_askStrand m_askTied m_thoughtClaim m_thoughtNeed m_thoughtAll m_acts m_undone m_laid m_firstMove m_seens m_time m_waysNow m_fitting 148 (f 148) from hT.1 148 (by decide))
  refine va_get (D := D) (cl := vwCl) (ci := 9) (v := .ref (ad 151)) (C := RX9) (T := TX9) (N := 64) hx hb hts in_X9_many_X9 hown hK hP 148 (wl_at (by decide) e16) rfl 11 (by decide) (hts (.fieldLink RX9 20 "EightReasonsModel" "points" "[I") (List.mem_of_getElem? (i := 1) rfl)) (fun _ h9 => h9) rfl dX9_many_1 ?_
  refine lv_aload_n hx hb dX9_many_4 rfl (lv_at hl 0 rfl) ?_
  refine va_get (D := D) (cl := vwCl) (ci := 9) (v := .int m_bank) (C := RX9) (T := TX9) (N := 64) hx hb hts in_X9_many_X9 hown hK hP 148 (wl_at (by decide) e16) rfl 29 (by decide) (hts (.fieldLink RX9 239 "EightReasonsModel" "bank" "I") (List.mem_of_getElem? (i := 2) rfl)) (fun _ h9 => h9) rfl dX9_many_5 ?_
  obtain ⟨e17, h18⟩ := (show okIpr cy 2 (0) (10) 1 0 c_points (f 151) from hT.1 151 (by decide))
  refine va_iald hx hb hK hP 151 0 (wl_at (by decide) e17) rfl (vp_in_iff.mpr ⟨by omega, by omega⟩) dX9_many_8 ?_
  refine lv_topi (fun x19 ex19 => ?_)
  have hx19 := r_el (h18 _ (Nat.mod_one _)) ex19
  have kx19 := congrArg Int32.toInt ex19
  exact tI hx hb hr hlk rfl hP hS ⟨(by omega), rfl⟩ dX9_many_9
set_option maxHeartbeats 4000000 in
set_option maxRecDepth 100000 in
theorem s_X9_isPoint_0 (l : Launch) (B0 : Nat) (adK adV : Nat → Nat) (D : va_G) (cy : Nat → ClassId) (ad : Nat → Nat) (fr0 : Nat → va_E) (c_text : Nat → Int32) (m_taped : Int32) (m_size : Int32) (m_faultKind : Int32) (m_faultPlace : Int32) (m_at : Int32) (m_end : Int32) (m_token : Int32) (m_number : Int32) (m_name : Int64) (c_points : Nat → Int32) (c_strands : Nat → Int32) (c_units : Nat → Int32) (c_told : Nat → Int32) (c_ruleFrom : Nat → Int32) (c_ruleTo : Nat → Int32) (c_code : Nat → Int32) (c_eWhat : Nat → Int32) (c_eSign : Nat → Int32) (m_bank : Int32) (m_rb : Int32) (m_codes : Int32) (m_within : Int32) (m_piled : Int32) (m_unitsInRule : Int32) (m_askStrand : Int32) (m_askTied : Int32) (m_thoughtClaim : Int32) (m_thoughtNeed : Int32) (m_thoughtAll : Int32) (c_roundOf : Nat → Int32) (m_acts : Int32) (m_undone : Int32) (m_laid : Int32) (m_firstMove : Int32) (m_seens : Int32) (m_time : Int32) (m_waysNow : Int32) (m_fitting : Int32) (f : Nat → va_E) (hT : TYm ad cy fr0 c_text m_taped m_size m_faultKind m_faultPlace m_at m_end m_token m_number m_name c_points c_strands c_units c_told c_ruleFrom c_ruleTo c_code c_eWhat c_eSign m_bank m_rb m_codes m_within m_piled m_unitsInRule m_askStrand m_askTied m_thoughtClaim m_thoughtNeed m_thoughtAll c_roundOf m_acts m_undone m_laid m_firstMove m_seens m_time m_waysNow m_fitting f) (p1 : Int32) (sz : Nat) : TtI l yX9_isPoint wsX9_isPoint 1 22 [.ref (ad 148), .int p1] B0 adK adV D cy ad f sz (fun (r : Int32) (g : Nat → va_E) => ((r = 1 ∧ 0 ≤ p1.toInt ∧ p1.toInt ≤ 9) ∨ (r = 0)) ∧ (f = g)) := by
  refine TtI.of (cc := cX9_isPoint) (maxL := 2) (ty := .boolean) (own := RX9) (by decide) rfl (Nat.le_of_ble_eq_true rfl) rfl ?_
  intro p e s m below meth c A ls hx hb hr hml hts hown hlk hK hE hP hD hS hA hAB hl
  have hl : lv_has ls 2 [(0, .ref (ad 148)), (1, .int p1)] := hl
  refine st0 (fun H locs hP hS => ?_) hP hS
  refine lv_iload_n hx hb dX9_isPoint_0 rfl (lv_at hl 1 rfl) ?_
  refine lv_iconst (v := 0) hx hb dX9_isPoint_1 (by decide) ?_
  refine lv_aload_n hx hb dX9_isPoint_2 rfl (lv_at hl 0 rfl) ?_
  obtain ⟨e16, h1, h2, h3, h4, h5, h6, h7, h8, h9, h10, h11, h12, h13, h14, h15⟩ := (show okX9 ad m_taped m_size m_faultKind m_faultPlace m_at m_end m_token m_number m_name m_bank m_rb m_codes m_within m_piled m_unitsInRule m_askStrand m_askTied m_thoughtClaim m_thoughtNeed m_thoughtAll m_acts m_undone m_laid m_firstMove m_seens m_time m_waysNow m_fitting 148 (f 148) from hT.1 148 (by decide))
  refine tVI (As := []) (rest := [.int 0, .int p1]) (i := 148) ⟨hx, hb, hml, hown, hts⟩ hK hE hP hD hS hA hAB (s_X9_many_0 l B0 adK adV D cy ad fr0 c_text m_taped m_size m_faultKind m_faultPlace m_at m_end m_token m_number m_name c_points c_strands c_units c_told c_ruleFrom c_ruleTo c_code c_eWhat c_eSign m_bank m_rb m_codes m_within m_piled m_unitsInRule m_askStrand m_askTied m_thoughtClaim m_thoughtNeed m_thoughtAll c_roundOf m_acts m_undone m_laid m_firstMove m_seens m_time m_waysNow m_fitting f hT _) (cwV 0 hts gX9_isPoint_X9_many rfl rfl rfl (by decide +kernel) ⟨Nat.le_of_ble_eq_true rfl, Nat.le_of_ble_eq_true rfl⟩) (by decide) 9 e16 rfl rfl hl.1 rfl (Nat.le_of_ble_eq_true rfl) dX9_isPoint_3 ⟨Nat.le_of_ble_eq_true rfl, Nat.le_of_ble_eq_true rfl⟩ (fun r g H locs hw hP hD hS => ?_)
  obtain ⟨hrs, rfl⟩ := hw
  obtain ⟨x17, rfl⟩ : ∃ q, q = r := ⟨_, rfl⟩
  have h18 := hrs
  refine lv_iconst (v := 1) hx hb dX9_isPoint_6 (by decide) ?_
  have ttl_1 := tl_1
  refine lv_isub hx hb dX9_isPoint_7 ?_
  refine lv_topi (fun x19 ex19 => ?_)
  have hx19 := r_sub ex19 (by omega) (by omega)
  have ttl_0 := tl_0
  refine tSI (As := [.int p1, .int 0, .int x19]) (rest := []) ⟨hx, hb, hml, hown, hts⟩ hK hE hP hD hS hA hAB (s_X9_isIn_0 l B0 adK adV D cy ad f p1 (0 : Int32) (by omega) x19 (by omega) _) (va_cwS 3 hts gX9_isPoint_X9_isIn rfl rfl rfl (by decide +kernel) ⟨Nat.le_of_ble_eq_true rfl, Nat.le_of_ble_eq_true rfl⟩) rfl hl.1 rfl (Nat.le_of_ble_eq_true rfl) dX9_isPoint_8 ⟨Nat.le_of_ble_eq_true rfl, Nat.le_of_ble_eq_true rfl⟩ (fun r g H locs hw hP hD hS => ?_)
  obtain ⟨hrs, rfl⟩ := hw
  obtain ⟨x20, rfl⟩ : ∃ q, q = r := ⟨_, rfl⟩
  rcases hrs with ⟨rfl, h21, h22⟩ | rfl
  · exact tI hx hb hr hlk rfl hP hS ⟨(Or.inl ⟨rfl, by omega, by omega⟩), rfl⟩ dX9_isPoint_11
  · exact tI hx hb hr hlk rfl hP hS ⟨(Or.inr rfl), rfl⟩ dX9_isPoint_11
set_option maxHeartbeats 4000000 in
set_option maxRecDepth 100000 in
theorem s_X9_isFact_0 (l : Launch) (B0 : Nat) (adK adV : Nat → Nat) (D : va_G) (cy : Nat → ClassId) (ad : Nat → Nat) (fr0 : Nat → va_E) (c_text : Nat → Int32) (m_taped : Int32) (m_size : Int32) (m_faultKind : Int32) (m_faultPlace : Int32) (m_at : Int32) (m_end : Int32) (m_token : Int32) (m_number : Int32) (m_name : Int64) (c_points : Nat → Int32) (c_strands : Nat → Int32) (c_units : Nat → Int32) (c_told : Nat → Int32) (c_ruleFrom : Nat → Int32) (c_ruleTo : Nat → Int32) (c_code : Nat → Int32) (c_eWhat : Nat → Int32) (c_eSign : Nat → Int32) (m_bank : Int32) (m_rb : Int32) (m_codes : Int32) (m_within : Int32) (m_piled : Int32) (m_unitsInRule : Int32) (m_askStrand : Int32) (m_askTied : Int32) (m_thoughtClaim : Int32) (m_thoughtNeed : Int32) (m_thoughtAll : Int32) (c_roundOf : Nat → Int32) (m_acts : Int32) (m_undone : Int32) (m_laid : Int32) (m_firstMove : Int32) (m_seens : Int32) (m_time : Int32) (m_waysNow : Int32) (m_fitting : Int32) (f : Nat → va_E) (hT : TYm ad cy fr0 c_text m_taped m_size m_faultKind m_faultPlace m_at m_end m_token m_number m_name c_points c_strands c_units c_told c_ruleFrom c_ruleTo c_code c_eWhat c_eSign m_bank m_rb m_codes m_within m_piled m_unitsInRule m_askStrand m_askTied m_thoughtClaim m_thoughtNeed m_thoughtAll c_roundOf m_acts m_undone m_laid m_firstMove m_seens m_time m_waysNow m_fitting f) (p1 : Int32) (sz : Nat) : TtI l yX9_isFact wsX9_isFact 2 43 [.ref (ad 148), .int p1] B0 adK adV D cy ad f sz (fun (r : Int32) (g : Nat → va_E) => ((r = 1 ∧ 0 ≤ p1.toInt ∧ p1.toInt ≤ 9) ∨ (r = 0)) ∧ (f = g)) := by
  refine TtI.of (cc := cX9_isFact) (maxL := 2) (ty := .boolean) (own := RX9) (by decide) rfl (Nat.le_of_ble_eq_true rfl) rfl ?_
  intro p e s m below meth c A ls hx hb hr hml hts hown hlk hK hE hP hD hS hA hAB hl
  have hl : lv_has ls 2 [(0, .ref (ad 148)), (1, .int p1)] := hl
  refine st0 (fun H locs hP hS => ?_) hP hS
  refine lv_aload_n hx hb dX9_isFact_0 rfl (lv_at hl 0 rfl) ?_
  refine lv_iload_n hx hb dX9_isFact_1 rfl (lv_at hl 1 rfl) ?_
  obtain ⟨e16, h1, h2, h3, h4, h5, h6, h7, h8, h9, h10, h11, h12, h13, h14, h15⟩ := (show okX9 ad m_taped m_size m_faultKind m_faultPlace m_at m_end m_token m_number m_name m_bank m_rb m_codes m_within m_piled m_unitsInRule m_askStrand m_askTied m_thoughtClaim m_thoughtNeed m_thoughtAll m_acts m_undone m_laid m_firstMove m_seens m_time m_waysNow m_fitting 148 (f 148) from hT.1 148 (by decide))
  refine tVI (As := [.int p1]) (rest := []) (i := 148) ⟨hx, hb, hml, hown, hts⟩ hK hE hP hD hS hA hAB (s_X9_isPoint_0 l B0 adK adV D cy ad fr0 c_text m_taped m_size m_faultKind m_faultPlace m_at m_end m_token m_number m_name c_points c_strands c_units c_told c_ruleFrom c_ruleTo c_code c_eWhat c_eSign m_bank m_rb m_codes m_within m_piled m_unitsInRule m_askStrand m_askTied m_thoughtClaim m_thoughtNeed m_thoughtAll c_roundOf m_acts m_undone m_laid m_firstMove m_seens m_time m_waysNow m_fitting f hT p1 _) (cwV 1 hts gX9_isFact_X9_isPoint rfl rfl rfl (by decide +kernel) ⟨Nat.le_of_ble_eq_true rfl, Nat.le_of_ble_eq_true rfl⟩) (by decide) 9 e16 rfl rfl hl.1 rfl (Nat.le_of_ble_eq_true rfl) dX9_isFact_2 ⟨Nat.le_of_ble_eq_true rfl, Nat.le_of_ble_eq_true rfl⟩ (fun r g H locs hw hP hD hS => ?_)
  obtain ⟨hrs, rfl⟩ := hw
  obtain ⟨x17, rfl⟩ : ∃ q, q = r := ⟨_, rfl⟩
  rcases hrs with ⟨rfl, h18, h19⟩ | rfl
  · refine lv_if_eq (tgt := 29) hx hb dX9_isFact_5 (by decide) (fun c => absurd c (by decide)) (fun _ => ?_)
    refine lv_aload_n hx hb dX9_isFact_8 rfl (lv_at hl 0 rfl) ?_
    refine va_get (D := D) (cl := vwCl) (ci := 9) (v := .ref (ad 157)) (C := RX9) (T := TX9) (N := 64) hx hb hts in_X9_isFact_X9 hown hK hP 148 (wl_at (by decide) e16) rfl 17 (by decide) (hts (.fieldLink RX9 39 "EightReasonsModel" "needs" "[I") (List.mem_of_getElem? (i := 1) rfl)) (fun _ h9 => h9) rfl dX9_isFact_9 ?_
    refine lv_bipush (v := 10) hx hb dX9_isFact_12 (by decide) ?_
    refine lv_aload_n hx hb dX9_isFact_14 rfl (lv_at hl 0 rfl) ?_
    refine va_get (D := D) (cl := vwCl) (ci := 9) (v := .int m_bank) (C := RX9) (T := TX9) (N := 64) hx hb hts in_X9_isFact_X9 hown hK hP 148 (wl_at (by decide) e16) rfl 29 (by decide) (hts (.fieldLink RX9 239 "EightReasonsModel" "bank" "I") (List.mem_of_getElem? (i := 2) rfl)) (fun _ h9 => h9) rfl dX9_isFact_15 ?_
    refine lv_imul hx hb dX9_isFact_18 ?_
    refine lv_topi (fun x20 ex20 => ?_)
    have hx20 := r_mull ex20 tl_10 (by omega) (by omega)
    refine lv_iload_n hx hb dX9_isFact_19 rfl (lv_at hl 1 rfl) ?_
    refine lv_iadd hx hb dX9_isFact_20 ?_
    refine lv_topi (fun x21 ex21 => ?_)
    have hx21 := r_add ex21 (by omega) (by omega)
    obtain ⟨g23, e22⟩ := (show okI cy 20 (f 157) from hT.1 157 (by decide))
    refine va_iald hx hb hK hP 157 0 (wl_at (by decide) e22) rfl (vp_in_iff.mpr ⟨by omega, by omega⟩) dX9_isFact_21 ?_
    refine lv_topi (fun x24 ex24 => ?_)
    have ttl_0 := tl_0
    refine lv_if_ne (tgt := 29) hx hb dX9_isFact_22 (by decide) (fun c25 => ?_) (fun c25 => ?_)
    · have kc25 := c_ne c25
      refine lv_iconst (v := 0) hx hb dX9_isFact_29 (by decide) ?_
      exact tI hx hb hr hlk rfl hP hS ⟨(Or.inr rfl), rfl⟩ dX9_isFact_30
    · have kc25 := c_eq c25
      refine lv_iconst (v := 1) hx hb dX9_isFact_25 (by decide) ?_
      refine lv_goto (tgt := 30) hx hb dX9_isFact_26 (by decide) ?_
      have ttl_1 := tl_1
      exact tI hx hb hr hlk rfl hP hS ⟨(Or.inl ⟨rfl, by omega, by omega⟩), rfl⟩ dX9_isFact_30
  · refine lv_if_eq (tgt := 29) hx hb dX9_isFact_5 (by decide) (fun _ => ?_) (fun c => absurd (by decide) c)
    refine lv_iconst (v := 0) hx hb dX9_isFact_29 (by decide) ?_
    have ttl_0 := tl_0
    exact tI hx hb hr hlk rfl hP hS ⟨(Or.inr rfl), rfl⟩ dX9_isFact_30
set_option maxHeartbeats 4000000 in
set_option maxRecDepth 100000 in
theorem s_X9_fromOf_0 (l : Launch) (B0 : Nat) (adK adV : Nat → Nat) (D : va_G) (cy : Nat → ClassId) (ad : Nat → Nat) (fr0 : Nat → va_E) (c_text : Nat → Int32) (m_taped : Int32) (m_size : Int32) (m_faultKind : Int32) (m_faultPlace : Int32) (m_at : Int32) (m_end : Int32) (m_token : Int32) (m_number : Int32) (m_name : Int64) (c_points : Nat → Int32) (c_strands : Nat → Int32) (c_units : Nat → Int32) (c_told : Nat → Int32) (c_ruleFrom : Nat → Int32) (c_ruleTo : Nat → Int32) (c_code : Nat → Int32) (c_eWhat : Nat → Int32) (c_eSign : Nat → Int32) (m_bank : Int32) (m_rb : Int32) (m_codes : Int32) (m_within : Int32) (m_piled : Int32) (m_unitsInRule : Int32) (m_askStrand : Int32) (m_askTied : Int32) (m_thoughtClaim : Int32) (m_thoughtNeed : Int32) (m_thoughtAll : Int32) (c_roundOf : Nat → Int32) (m_acts : Int32) (m_undone : Int32) (m_laid : Int32) (m_firstMove : Int32) (m_seens : Int32) (m_time : Int32) (m_waysNow : Int32) (m_fitting : Int32) (f : Nat → va_E) (hT : TYm ad cy fr0 c_text m_taped m_size m_faultKind m_faultPlace m_at m_end m_token m_number m_name c_points c_strands c_units c_told c_ruleFrom c_ruleTo c_code c_eWhat c_eSign m_bank m_rb m_codes m_within m_piled m_unitsInRule m_askStrand m_askTied m_thoughtClaim m_thoughtNeed m_thoughtAll c_roundOf m_acts m_undone m_laid m_firstMove m_seens m_time m_waysNow m_fitting f) (p1 : Int32) (hp1 : 0 ≤ p1.toInt ∧ p1.toInt ≤ 11) (sz : Nat) : TtI l yX9_fromOf wsX9_fromOf 0 0 [.ref (ad 148), .int p1] B0 adK adV D cy ad f sz (fun (r : Int32) (g : Nat → va_E) => (0 ≤ r.toInt ∧ r.toInt ≤ 9) ∧ (f = g)) := by
  refine TtI.of (cc := cX9_fromOf) (maxL := 2) (ty := .int) (own := RX9) (by decide) rfl (Nat.le_of_ble_eq_true rfl) rfl ?_
  intro p e s m below meth c A ls hx hb hr hml hts hown hlk hK hE hP hD hS hA hAB hl
  have hl : lv_has ls 2 [(0, .ref (ad 148)), (1, .int p1)] := hl
  refine st0 (fun H locs hP hS => ?_) hP hS
  refine lv_aload_n hx hb dX9_fromOf_0 rfl (lv_at hl 0 rfl) ?_
  obtain ⟨e16, h1, h2, h3, h4, h5, h6, h7, h8, h9, h10, h11, h12, h13, h14, h15⟩ := (show okX9 ad m_taped m_size m_faultKind m_faultPlace m_at m_end m_token m_number m_name m_bank m_rb m_codes m_within m_piled m_unitsInRule m_askStrand m_askTied m_thoughtClaim m_thoughtNeed m_thoughtAll m_acts m_undone m_laid m_firstMove m_seens m_time m_waysNow m_fitting 148 (f 148) from hT.1 148 (by decide))
  refine va_get (D := D) (cl := vwCl) (ci := 9) (v := .ref (ad 158)) (C := RX9) (T := TX9) (N := 64) hx hb hts in_X9_fromOf_X9 hown hK hP 148 (wl_at (by decide) e16) rfl 18 (by decide) (hts (.fieldLink RX9 42 "EightReasonsModel" "from" "[I") (List.mem_of_getElem? (i := 1) rfl)) (fun _ h9 => h9) rfl dX9_fromOf_1 ?_
  refine lv_bipush (v := 12) hx hb dX9_fromOf_4 (by decide) ?_
  refine lv_aload_n hx hb dX9_fromOf_6 rfl (lv_at hl 0 rfl) ?_
  refine va_get (D := D) (cl := vwCl) (ci := 9) (v := .int m_bank) (C := RX9) (T := TX9) (N := 64) hx hb hts in_X9_fromOf_X9 hown hK hP 148 (wl_at (by decide) e16) rfl 29 (by decide) (hts (.fieldLink RX9 239 "EightReasonsModel" "bank" "I") (List.mem_of_getElem? (i := 2) rfl)) (fun _ h9 => h9) rfl dX9_fromOf_7 ?_
  refine lv_imul hx hb dX9_fromOf_10 ?_
  refine lv_topi (fun x17 ex17 => ?_)
  have hx17 := r_mull ex17 tl_12 (by omega) (by omega)
  refine lv_iload_n hx hb dX9_fromOf_11 rfl (lv_at hl 1 rfl) ?_
  refine lv_iadd hx hb dX9_fromOf_12 ?_
  refine lv_topi (fun x18 ex18 => ?_)
  have hx18 := r_add ex18 (by omega) (by omega)
  obtain ⟨g21, e19, h20⟩ := (show okIr cy 24 (0) (9) 1 0 (f 158) from hT.1 158 (by decide))
  refine va_iald hx hb hK hP 158 0 (wl_at (by decide) e19) rfl (vp_in_iff.mpr ⟨by omega, by omega⟩) dX9_fromOf_13 ?_
  refine lv_topi (fun x22 ex22 => ?_)
  have hx22 := r_el (h20 _ (Nat.mod_one _)) ex22
  exact tI hx hb hr hlk rfl hP hS ⟨(by omega), rfl⟩ dX9_fromOf_14
set_option maxHeartbeats 4000000 in
set_option maxRecDepth 100000 in
theorem s_X9_leadingFrom_0 (l : Launch) (B0 : Nat) (adK adV : Nat → Nat) (D : va_G) (cy : Nat → ClassId) (ad : Nat → Nat) (fr0 : Nat → va_E) (c_text : Nat → Int32) (m_taped : Int32) (m_size : Int32) (m_faultKind : Int32) (m_faultPlace : Int32) (m_at : Int32) (m_end : Int32) (m_token : Int32) (m_number : Int32) (m_name : Int64) (c_points : Nat → Int32) (c_strands : Nat → Int32) (c_units : Nat → Int32) (c_told : Nat → Int32) (c_ruleFrom : Nat → Int32) (c_ruleTo : Nat → Int32) (c_code : Nat → Int32) (c_eWhat : Nat → Int32) (c_eSign : Nat → Int32) (m_bank : Int32) (m_rb : Int32) (m_codes : Int32) (m_within : Int32) (m_piled : Int32) (m_unitsInRule : Int32) (m_askStrand : Int32) (m_askTied : Int32) (m_thoughtClaim : Int32) (m_thoughtNeed : Int32) (m_thoughtAll : Int32) (c_roundOf : Nat → Int32) (m_acts : Int32) (m_undone : Int32) (m_laid : Int32) (m_firstMove : Int32) (m_seens : Int32) (m_time : Int32) (m_waysNow : Int32) (m_fitting : Int32) (f : Nat → va_E) (hT : TYm ad cy fr0 c_text m_taped m_size m_faultKind m_faultPlace m_at m_end m_token m_number m_name c_points c_strands c_units c_told c_ruleFrom c_ruleTo c_code c_eWhat c_eSign m_bank m_rb m_codes m_within m_piled m_unitsInRule m_askStrand m_askTied m_thoughtClaim m_thoughtNeed m_thoughtAll c_roundOf m_acts m_undone m_laid m_firstMove m_seens m_time m_waysNow m_fitting f) (p1 : Int32) (hp1 : 0 ≤ p1.toInt ∧ p1.toInt ≤ 9) (sz : Nat) : TtI l yX9_leadingFrom wsX9_leadingFrom 1 21 [.ref (ad 148), .int p1] B0 adK adV D cy ad f sz (fun (r : Int32) (g : Nat → va_E) => (0 ≤ r.toInt ∧ r.toInt ≤ 4095) ∧ (f = g)) := by
  refine TtI.of (cc := cX9_leadingFrom) (maxL := 4) (ty := .int) (own := RX9) (by decide) rfl (Nat.le_of_ble_eq_true rfl) rfl ?_
  intro p e s m below meth c A ls hx hb hr hml hts hown hlk hK hE hP hD hS hA hAB hl
  have hl : lv_has ls 4 [(0, .ref (ad 148)), (1, .int p1)] := hl
  refine st0 (fun H locs hP hS => ?_) hP hS
  have j4 : ∀ (N : Nat) (H : Heap) (locs : List Loc) (ls : Array Slot) (v4_l3 : Int32) (v4_l2 : Int32), (13 - v4_l3.toInt ≤ (N : Int)) → (0 ≤ v4_l3.toInt ∧ v4_l3.toInt ≤ 12) → (0 ≤ v4_l2.toInt ∧ v4_l2.toInt ≤ 4095) → (0 ≤ p1.toInt ∧ p1.toInt ≤ 9) → (va_P D vwCl (wl ad f) H) → (va_D A (wl ad f)) → (va_S A s.heap H locs) → (lv_has ls 4 [(3, .int v4_l3), (2, .int v4_l2), (0, .ref (ad 148)), (1, .int p1)]) → W p l e (rmO 1 21 0 0) s m ([.ref (ad 148), .int p1] : List Value).toArray below meth c H locs 0 0 (MQ below (va_Qi (fun (r : Int32) (g : Nat → va_E) => (0 ≤ r.toInt ∧ r.toInt ≤ 4095) ∧ (f = g)) (fun g t => PstT D ad g t) A) ([.ref (ad 148), .int p1] : List Value).toArray s 0 0 A) (F0 m 4 ls []) := by
    intro N
    induction N with
    | zero => intro H locs ls v4_l3 v4_l2 hN hv4_l3 hv4_l2 hv4_l1 hP hD hS hl; exact absurd hN (by omega)
    | succ N ih4 =>
      intro H locs ls v4_l3 v4_l2 hN hv4_l3 hv4_l2 hv4_l1 hP hD hS hl
      have j27 : ∀ (H : Heap) (locs : List Loc) (ls : Array Slot) (v27_l2 : Int32), (0 ≤ v4_l3.toInt ∧ v4_l3.toInt ≤ 11) → (0 ≤ v27_l2.toInt ∧ v27_l2.toInt ≤ 4095) → (0 ≤ p1.toInt ∧ p1.toInt ≤ 9) → (va_P D vwCl (wl ad f) H) → (va_D A (wl ad f)) → (va_S A s.heap H locs) → (lv_has ls 4 [(3, .int v4_l3), (2, .int v27_l2), (0, .ref (ad 148)), (1, .int p1)]) → W p l e (rmO 1 21 0 0) s m ([.ref (ad 148), .int p1] : List Value).toArray below meth c H locs 0 0 (MQ below (va_Qi (fun (r : Int32) (g : Nat → va_E) => (0 ≤ r.toInt ∧ r.toInt ≤ 4095) ∧ (f = g)) (fun g t => PstT D ad g t) A) ([.ref (ad 148), .int p1] : List Value).toArray s 0 0 A) (F0 m 27 ls []) := by
        intro H locs ls v27_l2 hv27_l3 hv27_l2 hv27_l1 hP hD hS hl
        obtain ⟨x1, ex1⟩ : ∃ q : Int32, q = v4_l3 + Int32.ofInt (1) := ⟨_, rfl⟩
        refine lv_iinc (v := x1) (lv' := [(3, .int x1), (2, .int v27_l2), (0, .ref (ad 148)), (1, .int p1)]) hx hb dX9_leadingFrom_27 hl (k := 0) rfl ex1.symm (by decide) rfl (fun ls hl => ?_)
        have hx1 := r_inc ex1 (by decide) (by omega) (by omega)
        refine lv_goto (tgt := 4) hx hb dX9_leadingFrom_30 (by decide) ?_
        exact ih4 H locs ls x1 v27_l2 (by omega) (by omega) (by omega) (by omega) hP hD hS (lv_sub hl [0, 1, 2, 3] rfl)
      refine lv_iload_n hx hb dX9_leadingFrom_4 rfl (lv_at hl 0 rfl) ?_
      refine lv_aload_n hx hb dX9_leadingFrom_5 rfl (lv_at hl 2 rfl) ?_
      obtain ⟨e17, h2, h3, h4, h5, h6, h7, h8, h9, h10, h11, h12, h13, h14, h15, h16⟩ := (show okX9 ad m_taped m_size m_faultKind m_faultPlace m_at m_end m_token m_number m_name m_bank m_rb m_codes m_within m_piled m_unitsInRule m_askStrand m_askTied m_thoughtClaim m_thoughtNeed m_thoughtAll m_acts m_undone m_laid m_firstMove m_seens m_time m_waysNow m_fitting 148 (f 148) from hT.1 148 (by decide))
      refine tVI (As := []) (rest := [.int v4_l3]) (i := 148) ⟨hx, hb, hml, hown, hts⟩ hK hE hP hD hS hA hAB (s_X9_threads_0 l B0 adK adV D cy ad fr0 c_text m_taped m_size m_faultKind m_faultPlace m_at m_end m_token m_number m_name c_points c_strands c_units c_told c_ruleFrom c_ruleTo c_code c_eWhat c_eSign m_bank m_rb m_codes m_within m_piled m_unitsInRule m_askStrand m_askTied m_thoughtClaim m_thoughtNeed m_thoughtAll c_roundOf m_acts m_undone m_laid m_firstMove m_seens m_time m_waysNow m_fitting f hT _) (cwV 0 hts gX9_leadingFrom_X9_threads rfl rfl rfl (by decide +kernel) ⟨Nat.le_of_ble_eq_true rfl, Nat.le_of_ble_eq_true rfl⟩) (by decide) 9 e17 rfl rfl hl.1 rfl (Nat.le_of_ble_eq_true rfl) dX9_leadingFrom_6 ⟨Nat.le_of_ble_eq_true rfl, Nat.le_of_ble_eq_true rfl⟩ (fun r g H locs hw hP hD hS => ?_)
      obtain ⟨hrs, rfl⟩ := hw
      obtain ⟨x18, rfl⟩ : ∃ q, q = r := ⟨_, rfl⟩
      have h19 := hrs
      refine lv_icmp_ge (tgt := 33) hx hb dX9_leadingFrom_9 (by decide) (fun c20 => ?_) (fun c20 => ?_)
      · have kc20 := c_le c20
        refine lv_iload_n hx hb dX9_leadingFrom_33 rfl (lv_at hl 1 rfl) ?_
        exact tI hx hb hr hlk rfl hP hS ⟨(by omega), rfl⟩ dX9_leadingFrom_34
      · have kc20 := c_nle c20
        refine lv_aload_n hx hb dX9_leadingFrom_12 rfl (lv_at hl 2 rfl) ?_
        refine lv_iload_n hx hb dX9_leadingFrom_13 rfl (lv_at hl 0 rfl) ?_
        refine tVI (As := [.int v4_l3]) (rest := []) (i := 148) ⟨hx, hb, hml, hown, hts⟩ hK hE hP hD hS hA hAB (s_X9_fromOf_0 l B0 adK adV D cy ad fr0 c_text m_taped m_size m_faultKind m_faultPlace m_at m_end m_token m_number m_name c_points c_strands c_units c_told c_ruleFrom c_ruleTo c_code c_eWhat c_eSign m_bank m_rb m_codes m_within m_piled m_unitsInRule m_askStrand m_askTied m_thoughtClaim m_thoughtNeed m_thoughtAll c_roundOf m_acts m_undone m_laid m_firstMove m_seens m_time m_waysNow m_fitting f hT v4_l3 (by omega) _) (cwV 1 hts gX9_leadingFrom_X9_fromOf rfl rfl rfl (by decide +kernel) ⟨Nat.le_of_ble_eq_true rfl, Nat.le_of_ble_eq_true rfl⟩) (by decide) 9 e17 rfl rfl hl.1 rfl (Nat.le_of_ble_eq_true rfl) dX9_leadingFrom_14 ⟨Nat.le_of_ble_eq_true rfl, Nat.le_of_ble_eq_true rfl⟩ (fun r g H locs hw hP hD hS => ?_)
        obtain ⟨hrs, rfl⟩ := hw
        obtain ⟨x21, rfl⟩ : ∃ q, q = r := ⟨_, rfl⟩
        have h22 := hrs
        refine lv_iload_n hx hb dX9_leadingFrom_17 rfl (lv_at hl 3 rfl) ?_
        refine lv_icmp_ne (tgt := 27) hx hb dX9_leadingFrom_18 (by decide) (fun c23 => ?_) (fun c23 => ?_)
        · have kc23 := c_ne c23
          exact j27 H locs ls v4_l2 (by omega) (by omega) (by omega) hP hD hS (lv_sub hl [0, 1, 2, 3] rfl)
        · have kc23 := c_eq c23
          refine lv_iload_n hx hb dX9_leadingFrom_21 rfl (lv_at hl 1 rfl) ?_
          refine lv_iconst (v := 1) hx hb dX9_leadingFrom_22 (by decide) ?_
          refine lv_iload_n hx hb dX9_leadingFrom_23 rfl (lv_at hl 0 rfl) ?_
          refine lv_ishl hx hb dX9_leadingFrom_24 ?_
          refine lv_topi (fun x24 ex24 => ?_)
          have hx24 := r_shl (K := 11) (M := 2048) ex24 (by decide) (by decide) (by omega) (by omega)
          refine lv_ior hx hb dX9_leadingFrom_25 ?_
          refine lv_topi (fun x25 ex25 => ?_)
          have hx25 := r_or (k := 12) (K := 4096) ex25 (by decide) (by decide) (by omega) (by omega) (by omega) (by omega)
          refine lv_istore_n (lv' := [(2, .int x25), (3, .int v4_l3), (0, .ref (ad 148)), (1, .int p1)]) hx hb dX9_leadingFrom_26 rfl hl (by decide) rfl (fun ls hl => ?_)
          exact j27 H locs ls x25 (by omega) (by omega) (by omega) hP hD hS (lv_sub hl [1, 0, 2, 3] rfl)
  refine lv_iconst (v := 0) hx hb dX9_leadingFrom_0 (by decide) ?_
  refine lv_istore_n (lv' := [(2, .int 0), (0, .ref (ad 148)), (1, .int p1)]) hx hb dX9_leadingFrom_1 rfl hl (by decide) rfl (fun ls hl => ?_)
  refine lv_iconst (v := 0) hx hb dX9_leadingFrom_2 (by decide) ?_
  refine lv_istore_n (lv' := [(3, .int 0), (2, .int 0), (0, .ref (ad 148)), (1, .int p1)]) hx hb dX9_leadingFrom_3 rfl hl (by decide) rfl (fun ls hl => ?_)
  have ttl_0 := tl_0
  exact j4 (Int.toNat (13 - (0 : Int32).toInt)) H locs ls (0 : Int32) (0 : Int32) (by omega) (by omega) (by omega) (by omega) hP hD hS (lv_sub hl [0, 1, 2, 3] rfl)
set_option maxHeartbeats 4000000 in
set_option maxRecDepth 100000 in
theorem s_X9_toOf_0 (l : Launch) (B0 : Nat) (adK adV : Nat → Nat) (D : va_G) (cy : Nat → ClassId) (ad : Nat → Nat) (fr0 : Nat → va_E) (c_text : Nat → Int32) (m_taped : Int32) (m_size : Int32) (m_faultKind : Int32) (m_faultPlace : Int32) (m_at : Int32) (m_end : Int32) (m_token : Int32) (m_number : Int32) (m_name : Int64) (c_points : Nat → Int32) (c_strands : Nat → Int32) (c_units : Nat → Int32) (c_told : Nat → Int32) (c_ruleFrom : Nat → Int32) (c_ruleTo : Nat → Int32) (c_code : Nat → Int32) (c_eWhat : Nat → Int32) (c_eSign : Nat → Int32) (m_bank : Int32) (m_rb : Int32) (m_codes : Int32) (m_within : Int32) (m_piled : Int32) (m_unitsInRule : Int32) (m_askStrand : Int32) (m_askTied : Int32) (m_thoughtClaim : Int32) (m_thoughtNeed : Int32) (m_thoughtAll : Int32) (c_roundOf : Nat → Int32) (m_acts : Int32) (m_undone : Int32) (m_laid : Int32) (m_firstMove : Int32) (m_seens : Int32) (m_time : Int32) (m_waysNow : Int32) (m_fitting : Int32) (f : Nat → va_E) (hT : TYm ad cy fr0 c_text m_taped m_size m_faultKind m_faultPlace m_at m_end m_token m_number m_name c_points c_strands c_units c_told c_ruleFrom c_ruleTo c_code c_eWhat c_eSign m_bank m_rb m_codes m_within m_piled m_unitsInRule m_askStrand m_askTied m_thoughtClaim m_thoughtNeed m_thoughtAll c_roundOf m_acts m_undone m_laid m_firstMove m_seens m_time m_waysNow m_fitting f) (p1 : Int32) (hp1 : 0 ≤ p1.toInt ∧ p1.toInt ≤ 11) (sz : Nat) : TtI l yX9_toOf wsX9_toOf 0 0 [.ref (ad 148), .int p1] B0 adK adV D cy ad f sz (fun (r : Int32) (g : Nat → va_E) => (0 ≤ r.toInt ∧ r.toInt ≤ 9) ∧ (f = g)) := by
  refine TtI.of (cc := cX9_toOf) (maxL := 2) (ty := .int) (own := RX9) (by decide) rfl (Nat.le_of_ble_eq_true rfl) rfl ?_
  intro p e s m below meth c A ls hx hb hr hml hts hown hlk hK hE hP hD hS hA hAB hl
  have hl : lv_has ls 2 [(0, .ref (ad 148)), (1, .int p1)] := hl
  refine st0 (fun H locs hP hS => ?_) hP hS
  refine lv_aload_n hx hb dX9_toOf_0 rfl (lv_at hl 0 rfl) ?_
  obtain ⟨e16, h1, h2, h3, h4, h5, h6, h7, h8, h9, h10, h11, h12, h13, h14, h15⟩ := (show okX9 ad m_taped m_size m_faultKind m_faultPlace m_at m_end m_token m_number m_name m_bank m_rb m_codes m_within m_piled m_unitsInRule m_askStrand m_askTied m_thoughtClaim m_thoughtNeed m_thoughtAll m_acts m_undone m_laid m_firstMove m_seens m_time m_waysNow m_fitting 148 (f 148) from hT.1 148 (by decide))
  refine va_get (D := D) (cl := vwCl) (ci := 9) (v := .ref (ad 159)) (C := RX9) (T := TX9) (N := 64) hx hb hts in_X9_toOf_X9 hown hK hP 148 (wl_at (by decide) e16) rfl 19 (by decide) (hts (.fieldLink RX9 45 "EightReasonsModel" "to" "[I") (List.mem_of_getElem? (i := 1) rfl)) (fun _ h9 => h9) rfl dX9_toOf_1 ?_
  refine lv_bipush (v := 12) hx hb dX9_toOf_4 (by decide) ?_
  refine lv_aload_n hx hb dX9_toOf_6 rfl (lv_at hl 0 rfl) ?_
  refine va_get (D := D) (cl := vwCl) (ci := 9) (v := .int m_bank) (C := RX9) (T := TX9) (N := 64) hx hb hts in_X9_toOf_X9 hown hK hP 148 (wl_at (by decide) e16) rfl 29 (by decide) (hts (.fieldLink RX9 239 "EightReasonsModel" "bank" "I") (List.mem_of_getElem? (i := 2) rfl)) (fun _ h9 => h9) rfl dX9_toOf_7 ?_
  refine lv_imul hx hb dX9_toOf_10 ?_
  refine lv_topi (fun x17 ex17 => ?_)
  have hx17 := r_mull ex17 tl_12 (by omega) (by omega)
  refine lv_iload_n hx hb dX9_toOf_11 rfl (lv_at hl 1 rfl) ?_
  refine lv_iadd hx hb dX9_toOf_12 ?_
  refine lv_topi (fun x18 ex18 => ?_)
  have hx18 := r_add ex18 (by omega) (by omega)
  obtain ⟨g21, e19, h20⟩ := (show okIr cy 24 (0) (9) 1 0 (f 159) from hT.1 159 (by decide))
  refine va_iald hx hb hK hP 159 0 (wl_at (by decide) e19) rfl (vp_in_iff.mpr ⟨by omega, by omega⟩) dX9_toOf_13 ?_
  refine lv_topi (fun x22 ex22 => ?_)
  have hx22 := r_el (h20 _ (Nat.mod_one _)) ex22
  exact tI hx hb hr hlk rfl hP hS ⟨(by omega), rfl⟩ dX9_toOf_14
set_option maxHeartbeats 4000000 in
set_option maxRecDepth 100000 in
theorem s_X9_leadingTo_0 (l : Launch) (B0 : Nat) (adK adV : Nat → Nat) (D : va_G) (cy : Nat → ClassId) (ad : Nat → Nat) (fr0 : Nat → va_E) (c_text : Nat → Int32) (m_taped : Int32) (m_size : Int32) (m_faultKind : Int32) (m_faultPlace : Int32) (m_at : Int32) (m_end : Int32) (m_token : Int32) (m_number : Int32) (m_name : Int64) (c_points : Nat → Int32) (c_strands : Nat → Int32) (c_units : Nat → Int32) (c_told : Nat → Int32) (c_ruleFrom : Nat → Int32) (c_ruleTo : Nat → Int32) (c_code : Nat → Int32) (c_eWhat : Nat → Int32) (c_eSign : Nat → Int32) (m_bank : Int32) (m_rb : Int32) (m_codes : Int32) (m_within : Int32) (m_piled : Int32) (m_unitsInRule : Int32) (m_askStrand : Int32) (m_askTied : Int32) (m_thoughtClaim : Int32) (m_thoughtNeed : Int32) (m_thoughtAll : Int32) (c_roundOf : Nat → Int32) (m_acts : Int32) (m_undone : Int32) (m_laid : Int32) (m_firstMove : Int32) (m_seens : Int32) (m_time : Int32) (m_waysNow : Int32) (m_fitting : Int32) (f : Nat → va_E) (hT : TYm ad cy fr0 c_text m_taped m_size m_faultKind m_faultPlace m_at m_end m_token m_number m_name c_points c_strands c_units c_told c_ruleFrom c_ruleTo c_code c_eWhat c_eSign m_bank m_rb m_codes m_within m_piled m_unitsInRule m_askStrand m_askTied m_thoughtClaim m_thoughtNeed m_thoughtAll c_roundOf m_acts m_undone m_laid m_firstMove m_seens m_time m_waysNow m_fitting f) (p1 : Int32) (hp1 : 0 ≤ p1.toInt ∧ p1.toInt ≤ 9) (sz : Nat) : TtI l yX9_leadingTo wsX9_leadingTo 1 21 [.ref (ad 148), .int p1] B0 adK adV D cy ad f sz (fun (r : Int32) (g : Nat → va_E) => (0 ≤ r.toInt ∧ r.toInt ≤ 4095) ∧ (f = g)) := by
  refine TtI.of (cc := cX9_leadingTo) (maxL := 4) (ty := .int) (own := RX9) (by decide) rfl (Nat.le_of_ble_eq_true rfl) rfl ?_
  intro p e s m below meth c A ls hx hb hr hml hts hown hlk hK hE hP hD hS hA hAB hl
  have hl : lv_has ls 4 [(0, .ref (ad 148)), (1, .int p1)] := hl
  refine st0 (fun H locs hP hS => ?_) hP hS
  have j4 : ∀ (N : Nat) (H : Heap) (locs : List Loc) (ls : Array Slot) (v4_l3 : Int32) (v4_l2 : Int32), (13 - v4_l3.toInt ≤ (N : Int)) → (0 ≤ v4_l3.toInt ∧ v4_l3.toInt ≤ 12) → (0 ≤ v4_l2.toInt ∧ v4_l2.toInt ≤ 4095) → (0 ≤ p1.toInt ∧ p1.toInt ≤ 9) → (va_P D vwCl (wl ad f) H) → (va_D A (wl ad f)) → (va_S A s.heap H locs) → (lv_has ls 4 [(3, .int v4_l3), (2, .int v4_l2), (0, .ref (ad 148)), (1, .int p1)]) → W p l e (rmO 1 21 0 0) s m ([.ref (ad 148), .int p1] : List Value).toArray below meth c H locs 0 0 (MQ below (va_Qi (fun (r : Int32) (g : Nat → va_E) => (0 ≤ r.toInt ∧ r.toInt ≤ 4095) ∧ (f = g)) (fun g t => PstT D ad g t) A) ([.ref (ad 148), .int p1] : List Value).toArray s 0 0 A) (F0 m 4 ls []) := by
    intro N
    induction N with
    | zero => intro H locs ls v4_l3 v4_l2 hN hv4_l3 hv4_l2 hv4_l1 hP hD hS hl; exact absurd hN (by omega)
    | succ N ih4 =>
      intro H locs ls v4_l3 v4_l2 hN hv4_l3 hv4_l2 hv4_l1 hP hD hS hl
      have j27 : ∀ (H : Heap) (locs : List Loc) (ls : Array Slot) (v27_l2 : Int32), (0 ≤ v4_l3.toInt ∧ v4_l3.toInt ≤ 11) → (0 ≤ v27_l2.toInt ∧ v27_l2.toInt ≤ 4095) → (0 ≤ p1.toInt ∧ p1.toInt ≤ 9) → (va_P D vwCl (wl ad f) H) → (va_D A (wl ad f)) → (va_S A s.heap H locs) → (lv_has ls 4 [(3, .int v4_l3), (2, .int v27_l2), (0, .ref (ad 148)), (1, .int p1)]) → W p l e (rmO 1 21 0 0) s m ([.ref (ad 148), .int p1] : List Value).toArray below meth c H locs 0 0 (MQ below (va_Qi (fun (r : Int32) (g : Nat → va_E) => (0 ≤ r.toInt ∧ r.toInt ≤ 4095) ∧ (f = g)) (fun g t => PstT D ad g t) A) ([.ref (ad 148), .int p1] : List Value).toArray s 0 0 A) (F0 m 27 ls []) := by
        intro H locs ls v27_l2 hv27_l3 hv27_l2 hv27_l1 hP hD hS hl
        obtain ⟨x1, ex1⟩ : ∃ q : Int32, q = v4_l3 + Int32.ofInt (1) := ⟨_, rfl⟩
        refine lv_iinc (v := x1) (lv' := [(3, .int x1), (2, .int v27_l2), (0, .ref (ad 148)), (1, .int p1)]) hx hb dX9_leadingTo_27 hl (k := 0) rfl ex1.symm (by decide) rfl (fun ls hl => ?_)
        have hx1 := r_inc ex1 (by decide) (by omega) (by omega)
        refine lv_goto (tgt := 4) hx hb dX9_leadingTo_30 (by decide) ?_
        exact ih4 H locs ls x1 v27_l2 (by omega) (by omega) (by omega) (by omega) hP hD hS (lv_sub hl [0, 1, 2, 3] rfl)
      refine lv_iload_n hx hb dX9_leadingTo_4 rfl (lv_at hl 0 rfl) ?_
      refine lv_aload_n hx hb dX9_leadingTo_5 rfl (lv_at hl 2 rfl) ?_
      obtain ⟨e17, h2, h3, h4, h5, h6, h7, h8, h9, h10, h11, h12, h13, h14, h15, h16⟩ := (show okX9 ad m_taped m_size m_faultKind m_faultPlace m_at m_end m_token m_number m_name m_bank m_rb m_codes m_within m_piled m_unitsInRule m_askStrand m_askTied m_thoughtClaim m_thoughtNeed m_thoughtAll m_acts m_undone m_laid m_firstMove m_seens m_time m_waysNow m_fitting 148 (f 148) from hT.1 148 (by decide))
      refine tVI (As := []) (rest := [.int v4_l3]) (i := 148) ⟨hx, hb, hml, hown, hts⟩ hK hE hP hD hS hA hAB (s_X9_threads_0 l B0 adK adV D cy ad fr0 c_text m_taped m_size m_faultKind m_faultPlace m_at m_end m_token m_number m_name c_points c_strands c_units c_told c_ruleFrom c_ruleTo c_code c_eWhat c_eSign m_bank m_rb m_codes m_within m_piled m_unitsInRule m_askStrand m_askTied m_thoughtClaim m_thoughtNeed m_thoughtAll c_roundOf m_acts m_undone m_laid m_firstMove m_seens m_time m_waysNow m_fitting f hT _) (cwV 0 hts gX9_leadingTo_X9_threads rfl rfl rfl (by decide +kernel) ⟨Nat.le_of_ble_eq_true rfl, Nat.le_of_ble_eq_true rfl⟩) (by decide) 9 e17 rfl rfl hl.1 rfl (Nat.le_of_ble_eq_true rfl) dX9_leadingTo_6 ⟨Nat.le_of_ble_eq_true rfl, Nat.le_of_ble_eq_true rfl⟩ (fun r g H locs hw hP hD hS => ?_)
      obtain ⟨hrs, rfl⟩ := hw
      obtain ⟨x18, rfl⟩ : ∃ q, q = r := ⟨_, rfl⟩
      have h19 := hrs
      refine lv_icmp_ge (tgt := 33) hx hb dX9_leadingTo_9 (by decide) (fun c20 => ?_) (fun c20 => ?_)
      · have kc20 := c_le c20
        refine lv_iload_n hx hb dX9_leadingTo_33 rfl (lv_at hl 1 rfl) ?_
        exact tI hx hb hr hlk rfl hP hS ⟨(by omega), rfl⟩ dX9_leadingTo_34
      · have kc20 := c_nle c20
        refine lv_aload_n hx hb dX9_leadingTo_12 rfl (lv_at hl 2 rfl) ?_
        refine lv_iload_n hx hb dX9_leadingTo_13 rfl (lv_at hl 0 rfl) ?_
        refine tVI (As := [.int v4_l3]) (rest := []) (i := 148) ⟨hx, hb, hml, hown, hts⟩ hK hE hP hD hS hA hAB (s_X9_toOf_0 l B0 adK adV D cy ad fr0 c_text m_taped m_size m_faultKind m_faultPlace m_at m_end m_token m_number m_name c_points c_strands c_units c_told c_ruleFrom c_ruleTo c_code c_eWhat c_eSign m_bank m_rb m_codes m_within m_piled m_unitsInRule m_askStrand m_askTied m_thoughtClaim m_thoughtNeed m_thoughtAll c_roundOf m_acts m_undone m_laid m_firstMove m_seens m_time m_waysNow m_fitting f hT v4_l3 (by omega) _) (cwV 1 hts gX9_leadingTo_X9_toOf rfl rfl rfl (by decide +kernel) ⟨Nat.le_of_ble_eq_true rfl, Nat.le_of_ble_eq_true rfl⟩) (by decide) 9 e17 rfl rfl hl.1 rfl (Nat.le_of_ble_eq_true rfl) dX9_leadingTo_14 ⟨Nat.le_of_ble_eq_true rfl, Nat.le_of_ble_eq_true rfl⟩ (fun r g H locs hw hP hD hS => ?_)
        obtain ⟨hrs, rfl⟩ := hw
        obtain ⟨x21, rfl⟩ : ∃ q, q = r := ⟨_, rfl⟩
        have h22 := hrs
        refine lv_iload_n hx hb dX9_leadingTo_17 rfl (lv_at hl 3 rfl) ?_
        refine lv_icmp_ne (tgt := 27) hx hb dX9_leadingTo_18 (by decide) (fun c23 => ?_) (fun c23 => ?_)
        · have kc23 := c_ne c23
          exact j27 H locs ls v4_l2 (by omega) (by omega) (by omega) hP hD hS (lv_sub hl [0, 1, 2, 3] rfl)
        · have kc23 := c_eq c23
          refine lv_iload_n hx hb dX9_leadingTo_21 rfl (lv_at hl 1 rfl) ?_
          refine lv_iconst (v := 1) hx hb dX9_leadingTo_22 (by decide) ?_
          refine lv_iload_n hx hb dX9_leadingTo_23 rfl (lv_at hl 0 rfl) ?_
          refine lv_ishl hx hb dX9_leadingTo_24 ?_
          refine lv_topi (fun x24 ex24 => ?_)
          have hx24 := r_shl (K := 11) (M := 2048) ex24 (by decide) (by decide) (by omega) (by omega)
          refine lv_ior hx hb dX9_leadingTo_25 ?_
          refine lv_topi (fun x25 ex25 => ?_)
          have hx25 := r_or (k := 12) (K := 4096) ex25 (by decide) (by decide) (by omega) (by omega) (by omega) (by omega)
          refine lv_istore_n (lv' := [(2, .int x25), (3, .int v4_l3), (0, .ref (ad 148)), (1, .int p1)]) hx hb dX9_leadingTo_26 rfl hl (by decide) rfl (fun ls hl => ?_)
          exact j27 H locs ls x25 (by omega) (by omega) (by omega) hP hD hS (lv_sub hl [1, 0, 2, 3] rfl)
  refine lv_iconst (v := 0) hx hb dX9_leadingTo_0 (by decide) ?_
  refine lv_istore_n (lv' := [(2, .int 0), (0, .ref (ad 148)), (1, .int p1)]) hx hb dX9_leadingTo_1 rfl hl (by decide) rfl (fun ls hl => ?_)
  refine lv_iconst (v := 0) hx hb dX9_leadingTo_2 (by decide) ?_
  refine lv_istore_n (lv' := [(3, .int 0), (2, .int 0), (0, .ref (ad 148)), (1, .int p1)]) hx hb dX9_leadingTo_3 rfl hl (by decide) rfl (fun ls hl => ?_)
  have ttl_0 := tl_0
  exact j4 (Int.toNat (13 - (0 : Int32).toInt)) H locs ls (0 : Int32) (0 : Int32) (by omega) (by omega) (by omega) (by omega) hP hD hS (lv_sub hl [0, 1, 2, 3] rfl)
set_option maxHeartbeats 4000000 in
set_option maxRecDepth 100000 in
theorem s_X9_needOf_0 (l : Launch) (B0 : Nat) (adK adV : Nat → Nat) (D : va_G) (cy : Nat → ClassId) (ad : Nat → Nat) (fr0 : Nat → va_E) (c_text : Nat → Int32) (m_taped : Int32) (m_size : Int32) (m_faultKind : Int32) (m_faultPlace : Int32) (m_at : Int32) (m_end : Int32) (m_token : Int32) (m_number : Int32) (m_name : Int64) (c_points : Nat → Int32) (c_strands : Nat → Int32) (c_units : Nat → Int32) (c_told : Nat → Int32) (c_ruleFrom : Nat → Int32) (c_ruleTo : Nat → Int32) (c_code : Nat → Int32) (c_eWhat : Nat → Int32) (c_eSign : Nat → Int32) (m_bank : Int32) (m_rb : Int32) (m_codes : Int32) (m_within : Int32) (m_piled : Int32) (m_unitsInRule : Int32) (m_askStrand : Int32) (m_askTied : Int32) (m_thoughtClaim : Int32) (m_thoughtNeed : Int32) (m_thoughtAll : Int32) (c_roundOf : Nat → Int32) (m_acts : Int32) (m_undone : Int32) (m_laid : Int32) (m_firstMove : Int32) (m_seens : Int32) (m_time : Int32) (m_waysNow : Int32) (m_fitting : Int32) (f : Nat → va_E) (hT : TYm ad cy fr0 c_text m_taped m_size m_faultKind m_faultPlace m_at m_end m_token m_number m_name c_points c_strands c_units c_told c_ruleFrom c_ruleTo c_code c_eWhat c_eSign m_bank m_rb m_codes m_within m_piled m_unitsInRule m_askStrand m_askTied m_thoughtClaim m_thoughtNeed m_thoughtAll c_roundOf m_acts m_undone m_laid m_firstMove m_seens m_time m_waysNow m_fitting f) (p1 : Int32) (hp1 : 0 ≤ p1.toInt ∧ p1.toInt ≤ 9) (sz : Nat) : TtI l yX9_needOf wsX9_needOf 0 0 [.ref (ad 148), .int p1] B0 adK adV D cy ad f sz (fun (r : Int32) (g : Nat → va_E) => True ∧ (f = g)) := by
  refine TtI.of (cc := cX9_needOf) (maxL := 2) (ty := .int) (own := RX9) (by decide) rfl (Nat.le_of_ble_eq_true rfl) rfl ?_
  intro p e s m below meth c A ls hx hb hr hml hts hown hlk hK hE hP hD hS hA hAB hl
  have hl : lv_has ls 2 [(0, .ref (ad 148)), (1, .int p1)] := hl
  refine st0 (fun H locs hP hS => ?_) hP hS
  refine lv_aload_n hx hb dX9_needOf_0 rfl (lv_at hl 0 rfl) ?_
  obtain ⟨e16, h1, h2, h3, h4, h5, h6, h7, h8, h9, h10, h11, h12, h13, h14, h15⟩ := (show okX9 ad m_taped m_size m_faultKind m_faultPlace m_at m_end m_token m_number m_name m_bank m_rb m_codes m_within m_piled m_unitsInRule m_askStrand m_askTied m_thoughtClaim m_thoughtNeed m_thoughtAll m_acts m_undone m_laid m_firstMove m_seens m_time m_waysNow m_fitting 148 (f 148) from hT.1 148 (by decide))
  refine va_get (D := D) (cl := vwCl) (ci := 9) (v := .int m_thoughtAll) (C := RX9) (T := TX9) (N := 64) hx hb hts in_X9_needOf_X9 hown hK hP 148 (wl_at (by decide) e16) rfl 41 (by decide) (hts (.fieldLink RX9 85 "EightReasonsModel" "thoughtAll" "I") (List.mem_of_getElem? (i := 1) rfl)) (fun _ h9 => h9) rfl dX9_needOf_1 ?_
  have ttl_0 := tl_0
  refine lv_if_lt (tgt := 14) hx hb dX9_needOf_4 (by decide) (fun c17 => ?_) (fun c17 => ?_)
  · have kc17 := c_lt c17
    refine lv_iload_n hx hb dX9_needOf_14 rfl (lv_at hl 1 rfl) ?_
    refine lv_aload_n hx hb dX9_needOf_15 rfl (lv_at hl 0 rfl) ?_
    refine va_get (D := D) (cl := vwCl) (ci := 9) (v := .int m_thoughtClaim) (C := RX9) (T := TX9) (N := 64) hx hb hts in_X9_needOf_X9 hown hK hP 148 (wl_at (by decide) e16) rfl 39 (by decide) (hts (.fieldLink RX9 82 "EightReasonsModel" "thoughtClaim" "I") (List.mem_of_getElem? (i := 2) rfl)) (fun _ h9 => h9) rfl dX9_needOf_16 ?_
    refine lv_icmp_ne (tgt := 29) hx hb dX9_needOf_19 (by decide) (fun c18 => ?_) (fun c18 => ?_)
    · have kc18 := c_ne c18
      refine lv_aload_n hx hb dX9_needOf_29 rfl (lv_at hl 0 rfl) ?_
      refine va_get (D := D) (cl := vwCl) (ci := 9) (v := .ref (ad 157)) (C := RX9) (T := TX9) (N := 64) hx hb hts in_X9_needOf_X9 hown hK hP 148 (wl_at (by decide) e16) rfl 17 (by decide) (hts (.fieldLink RX9 39 "EightReasonsModel" "needs" "[I") (List.mem_of_getElem? (i := 4) rfl)) (fun _ h9 => h9) rfl dX9_needOf_30 ?_
      refine lv_bipush (v := 10) hx hb dX9_needOf_33 (by decide) ?_
      refine lv_aload_n hx hb dX9_needOf_35 rfl (lv_at hl 0 rfl) ?_
      refine va_get (D := D) (cl := vwCl) (ci := 9) (v := .int m_bank) (C := RX9) (T := TX9) (N := 64) hx hb hts in_X9_needOf_X9 hown hK hP 148 (wl_at (by decide) e16) rfl 29 (by decide) (hts (.fieldLink RX9 239 "EightReasonsModel" "bank" "I") (List.mem_of_getElem? (i := 5) rfl)) (fun _ h9 => h9) rfl dX9_needOf_36 ?_
      refine lv_imul hx hb dX9_needOf_39 ?_
      refine lv_topi (fun x19 ex19 => ?_)
      have hx19 := r_mull ex19 tl_10 (by omega) (by omega)
      refine lv_iload_n hx hb dX9_needOf_40 rfl (lv_at hl 1 rfl) ?_
      refine lv_iadd hx hb dX9_needOf_41 ?_
      refine lv_topi (fun x20 ex20 => ?_)
      have hx20 := r_add ex20 (by omega) (by omega)
      obtain ⟨g22, e21⟩ := (show okI cy 20 (f 157) from hT.1 157 (by decide))
      refine va_iald hx hb hK hP 157 0 (wl_at (by decide) e21) rfl (vp_in_iff.mpr ⟨by omega, by omega⟩) dX9_needOf_42 ?_
      refine lv_topi (fun x23 ex23 => ?_)
      exact tI hx hb hr hlk rfl hP hS ⟨trivial, rfl⟩ dX9_needOf_43
    · have kc18 := c_eq c18
      refine lv_aload_n hx hb dX9_needOf_22 rfl (lv_at hl 0 rfl) ?_
      refine va_get (D := D) (cl := vwCl) (ci := 9) (v := .int m_thoughtNeed) (C := RX9) (T := TX9) (N := 64) hx hb hts in_X9_needOf_X9 hown hK hP 148 (wl_at (by decide) e16) rfl 40 (by decide) (hts (.fieldLink RX9 356 "EightReasonsModel" "thoughtNeed" "I") (List.mem_of_getElem? (i := 3) rfl)) (fun _ h9 => h9) rfl dX9_needOf_23 ?_
      refine lv_goto (tgt := 43) hx hb dX9_needOf_26 (by decide) ?_
      exact tI hx hb hr hlk rfl hP hS ⟨trivial, rfl⟩ dX9_needOf_43
  · have kc17 := c_nlt c17
    refine lv_aload_n hx hb dX9_needOf_7 rfl (lv_at hl 0 rfl) ?_
    refine va_get (D := D) (cl := vwCl) (ci := 9) (v := .int m_thoughtAll) (C := RX9) (T := TX9) (N := 64) hx hb hts in_X9_needOf_X9 hown hK hP 148 (wl_at (by decide) e16) rfl 41 (by decide) (hts (.fieldLink RX9 85 "EightReasonsModel" "thoughtAll" "I") (List.mem_of_getElem? (i := 1) rfl)) (fun _ h9 => h9) rfl dX9_needOf_8 ?_
    refine lv_goto (tgt := 43) hx hb dX9_needOf_11 (by decide) ?_
    exact tI hx hb hr hlk rfl hP hS ⟨trivial, rfl⟩ dX9_needOf_43
set_option maxHeartbeats 4000000 in
set_option maxRecDepth 100000 in
theorem s_X9_point_0 (l : Launch) (B0 : Nat) (adK adV : Nat → Nat) (D : va_G) (cy : Nat → ClassId) (ad : Nat → Nat) (fr0 : Nat → va_E) (c_text : Nat → Int32) (m_taped : Int32) (m_size : Int32) (m_faultKind : Int32) (m_faultPlace : Int32) (m_at : Int32) (m_end : Int32) (m_token : Int32) (m_number : Int32) (m_name : Int64) (c_points : Nat → Int32) (c_strands : Nat → Int32) (c_units : Nat → Int32) (c_told : Nat → Int32) (c_ruleFrom : Nat → Int32) (c_ruleTo : Nat → Int32) (c_code : Nat → Int32) (c_eWhat : Nat → Int32) (c_eSign : Nat → Int32) (m_bank : Int32) (m_rb : Int32) (m_codes : Int32) (m_within : Int32) (m_piled : Int32) (m_unitsInRule : Int32) (m_askStrand : Int32) (m_askTied : Int32) (m_thoughtClaim : Int32) (m_thoughtNeed : Int32) (m_thoughtAll : Int32) (c_roundOf : Nat → Int32) (m_acts : Int32) (m_undone : Int32) (m_laid : Int32) (m_firstMove : Int32) (m_seens : Int32) (m_time : Int32) (m_waysNow : Int32) (m_fitting : Int32) (f : Nat → va_E) (hT : TYm ad cy fr0 c_text m_taped m_size m_faultKind m_faultPlace m_at m_end m_token m_number m_name c_points c_strands c_units c_told c_ruleFrom c_ruleTo c_code c_eWhat c_eSign m_bank m_rb m_codes m_within m_piled m_unitsInRule m_askStrand m_askTied m_thoughtClaim m_thoughtNeed m_thoughtAll c_roundOf m_acts m_undone m_laid m_firstMove m_seens m_time m_waysNow m_fitting f) (p1 : Int32) (p2 : Int32) (sz : Nat) : TtI l yX9_point wsX9_point 3 64 [.ref (ad 148), .int p1, .int p2] B0 adK adV D cy ad f sz (fun (r : Int32) (g : Nat → va_E) => True ∧ (f = g)) := by
  refine TtI.of (cc := cX9_point) (maxL := 3) (ty := .int) (own := RX9) (by decide) rfl (Nat.le_of_ble_eq_true rfl) rfl ?_
  intro p e s m below meth c A ls hx hb hr hml hts hown hlk hK hE hP hD hS hA hAB hl
  have hl : lv_has ls 3 [(0, .ref (ad 148)), (1, .int p1), (2, .int p2)] := hl
  refine st0 (fun H locs hP hS => ?_) hP hS
  refine lv_aload_n hx hb dX9_point_0 rfl (lv_at hl 0 rfl) ?_
  refine lv_iload_n hx hb dX9_point_1 rfl (lv_at hl 1 rfl) ?_
  obtain ⟨e16, h1, h2, h3, h4, h5, h6, h7, h8, h9, h10, h11, h12, h13, h14, h15⟩ := (show okX9 ad m_taped m_size m_faultKind m_faultPlace m_at m_end m_token m_number m_name m_bank m_rb m_codes m_within m_piled m_unitsInRule m_askStrand m_askTied m_thoughtClaim m_thoughtNeed m_thoughtAll m_acts m_undone m_laid m_firstMove m_seens m_time m_waysNow m_fitting 148 (f 148) from hT.1 148 (by decide))
  refine tVI (As := [.int p1]) (rest := []) (i := 148) ⟨hx, hb, hml, hown, hts⟩ hK hE hP hD hS hA hAB (s_X9_isPoint_0 l B0 adK adV D cy ad fr0 c_text m_taped m_size m_faultKind m_faultPlace m_at m_end m_token m_number m_name c_points c_strands c_units c_told c_ruleFrom c_ruleTo c_code c_eWhat c_eSign m_bank m_rb m_codes m_within m_piled m_unitsInRule m_askStrand m_askTied m_thoughtClaim m_thoughtNeed m_thoughtAll c_roundOf m_acts m_undone m_laid m_firstMove m_seens m_time m_waysNow m_fitting f hT p1 _) (cwV 1 hts gX9_point_X9_isPoint rfl rfl rfl (by decide +kernel) ⟨Nat.le_of_ble_eq_true rfl, Nat.le_of_ble_eq_true rfl⟩) (by decide) 9 e16 rfl rfl hl.1 rfl (Nat.le_of_ble_eq_true rfl) dX9_point_2 ⟨Nat.le_of_ble_eq_true rfl, Nat.le_of_ble_eq_true rfl⟩ (fun r g H locs hw hP hD hS => ?_)
  obtain ⟨hrs, rfl⟩ := hw
  obtain ⟨x17, rfl⟩ : ∃ q, q = r := ⟨_, rfl⟩
  rcases hrs with ⟨rfl, h18, h19⟩ | rfl
  · refine lv_if_ne (tgt := 10) hx hb dX9_point_5 (by decide) (fun _ => ?_) (fun c => absurd c (by decide))
    refine lv_iload_n hx hb dX9_point_10 rfl (lv_at hl 2 rfl) ?_
    rcases sw_0_4 p2 with c20 | c20 | c20 | c20 | c20 | c20
    · refine lv_tableOut (tgt := 87) hx hb dX9_point_11 c20 (by decide) ?_
      refine lv_iconst (v := (-1)) hx hb dX9_point_87 (by decide) ?_
      have ttl_m1 := tl_m1
      exact tI hx hb hr hlk rfl hP hS ⟨trivial, rfl⟩ dX9_point_88
    · have kc20 := (c_eq c20).trans tl_0
      refine lv_tableIn (off := 33) (tgt := 44) hx hb dX9_point_11 (by rw [kc20]; decide) (by rw [kc20]; decide) (by rw [kc20]; decide) (by decide) ?_
      refine lv_aload_n hx hb dX9_point_44 rfl (lv_at hl 0 rfl) ?_
      refine lv_iload_n hx hb dX9_point_45 rfl (lv_at hl 1 rfl) ?_
      refine tVI (As := [.int p1]) (rest := []) (i := 148) ⟨hx, hb, hml, hown, hts⟩ hK hE hP hD hS hA hAB (s_X9_isFact_0 l B0 adK adV D cy ad fr0 c_text m_taped m_size m_faultKind m_faultPlace m_at m_end m_token m_number m_name c_points c_strands c_units c_told c_ruleFrom c_ruleTo c_code c_eWhat c_eSign m_bank m_rb m_codes m_within m_piled m_unitsInRule m_askStrand m_askTied m_thoughtClaim m_thoughtNeed m_thoughtAll c_roundOf m_acts m_undone m_laid m_firstMove m_seens m_time m_waysNow m_fitting f hT p1 _) (cwV 1 hts gX9_point_X9_isFact rfl rfl rfl (by decide +kernel) ⟨Nat.le_of_ble_eq_true rfl, Nat.le_of_ble_eq_true rfl⟩) (by decide) 9 e16 rfl rfl hl.1 rfl (Nat.le_of_ble_eq_true rfl) dX9_point_46 ⟨Nat.le_of_ble_eq_true rfl, Nat.le_of_ble_eq_true rfl⟩ (fun r g H locs hw hP hD hS => ?_)
      obtain ⟨hrs, rfl⟩ := hw
      obtain ⟨x21, rfl⟩ : ∃ q, q = r := ⟨_, rfl⟩
      rcases hrs with ⟨rfl, h22, h23⟩ | rfl
      · refine lv_if_eq (tgt := 56) hx hb dX9_point_49 (by decide) (fun c => absurd c (by decide)) (fun _ => ?_)
        refine lv_iconst (v := 1) hx hb dX9_point_52 (by decide) ?_
        refine lv_goto (tgt := 57) hx hb dX9_point_53 (by decide) ?_
        have ttl_1 := tl_1
        exact tI hx hb hr hlk rfl hP hS ⟨trivial, rfl⟩ dX9_point_57
      · refine lv_if_eq (tgt := 56) hx hb dX9_point_49 (by decide) (fun _ => ?_) (fun c => absurd (by decide) c)
        refine lv_iconst (v := 0) hx hb dX9_point_56 (by decide) ?_
        have ttl_0 := tl_0
        exact tI hx hb hr hlk rfl hP hS ⟨trivial, rfl⟩ dX9_point_57
    · have kc20 := (c_eq c20).trans tl_1
      refine lv_tableIn (off := 47) (tgt := 58) hx hb dX9_point_11 (by rw [kc20]; decide) (by rw [kc20]; decide) (by rw [kc20]; decide) (by decide) ?_
      refine lv_aload_n hx hb dX9_point_58 rfl (lv_at hl 0 rfl) ?_
      refine lv_iload_n hx hb dX9_point_59 rfl (lv_at hl 1 rfl) ?_
      refine tVI (As := [.int p1]) (rest := []) (i := 148) ⟨hx, hb, hml, hown, hts⟩ hK hE hP hD hS hA hAB (s_X9_needOf_0 l B0 adK adV D cy ad fr0 c_text m_taped m_size m_faultKind m_faultPlace m_at m_end m_token m_number m_name c_points c_strands c_units c_told c_ruleFrom c_ruleTo c_code c_eWhat c_eSign m_bank m_rb m_codes m_within m_piled m_unitsInRule m_askStrand m_askTied m_thoughtClaim m_thoughtNeed m_thoughtAll c_roundOf m_acts m_undone m_laid m_firstMove m_seens m_time m_waysNow m_fitting f hT p1 (by omega) _) (cwV 1 hts gX9_point_X9_needOf rfl rfl rfl (by decide +kernel) ⟨Nat.le_of_ble_eq_true rfl, Nat.le_of_ble_eq_true rfl⟩) (by decide) 9 e16 rfl rfl hl.1 rfl (Nat.le_of_ble_eq_true rfl) dX9_point_60 ⟨Nat.le_of_ble_eq_true rfl, Nat.le_of_ble_eq_true rfl⟩ (fun r g H locs hw hP hD hS => ?_)
      obtain ⟨hrs, rfl⟩ := hw
      obtain ⟨x24, rfl⟩ : ∃ q, q = r := ⟨_, rfl⟩
      have h25 := hrs
      exact tI hx hb hr hlk rfl hP hS ⟨trivial, rfl⟩ dX9_point_63
    · have kc20 := (c_eq c20).trans tl_2
      refine lv_tableIn (off := 53) (tgt := 64) hx hb dX9_point_11 (by rw [kc20]; decide) (by rw [kc20]; decide) (by rw [kc20]; decide) (by decide) ?_
      refine lv_aload_n hx hb dX9_point_64 rfl (lv_at hl 0 rfl) ?_
      refine va_get (D := D) (cl := vwCl) (ci := 9) (v := .ref (ad 169)) (C := RX9) (T := TX9) (N := 64) hx hb hts in_X9_point_X9 hown hK hP 148 (wl_at (by decide) e16) rfl 37 (by decide) (hts (.fieldLink RX9 76 "EightReasonsModel" "all" "[I") (List.mem_of_getElem? (i := 1) rfl)) (fun _ h9 => h9) rfl dX9_point_65 ?_
      refine lv_iconst (v := 0) hx hb dX9_point_68 (by decide) ?_
      obtain ⟨g28, e26, h27⟩ := (show okIr cy 16 (0) (4095) 16 1 (f 169) from hT.1 169 (by decide))
      have ttl_0 := tl_0
      refine va_iald hx hb hK hP 169 0 (wl_at (by decide) e26) rfl (vin (by decide)) dX9_point_69 ?_
      refine lv_topi (fun x29 ex29 => ?_)
      refine lv_iload_n hx hb dX9_point_70 rfl (lv_at hl 1 rfl) ?_
      refine lv_ishr hx hb dX9_point_71 ?_
      refine lv_topi (fun x30 ex30 => ?_)
      refine lv_iconst (v := 1) hx hb dX9_point_72 (by decide) ?_
      have ttl_1 := tl_1
      refine lv_iand hx hb dX9_point_73 ?_
      refine lv_topi (fun x31 ex31 => ?_)
      have hx31 := r_andr ex31 (by omega)
      exact tI hx hb hr hlk rfl hP hS ⟨trivial, rfl⟩ dX9_point_74
    · have kc20 := (c_eq c20).trans tl_3
      refine lv_tableIn (off := 64) (tgt := 75) hx hb dX9_point_11 (by rw [kc20]; decide) (by rw [kc20]; decide) (by rw [kc20]; decide) (by decide) ?_
      refine lv_aload_n hx hb dX9_point_75 rfl (lv_at hl 0 rfl) ?_
      refine lv_iload_n hx hb dX9_point_76 rfl (lv_at hl 1 rfl) ?_
      refine tVI (As := [.int p1]) (rest := []) (i := 148) ⟨hx, hb, hml, hown, hts⟩ hK hE hP hD hS hA hAB (s_X9_leadingTo_0 l B0 adK adV D cy ad fr0 c_text m_taped m_size m_faultKind m_faultPlace m_at m_end m_token m_number m_name c_points c_strands c_units c_told c_ruleFrom c_ruleTo c_code c_eWhat c_eSign m_bank m_rb m_codes m_within m_piled m_unitsInRule m_askStrand m_askTied m_thoughtClaim m_thoughtNeed m_thoughtAll c_roundOf m_acts m_undone m_laid m_firstMove m_seens m_time m_waysNow m_fitting f hT p1 (by omega) _) (cwV 1 hts gX9_point_X9_leadingTo rfl rfl rfl (by decide +kernel) ⟨Nat.le_of_ble_eq_true rfl, Nat.le_of_ble_eq_true rfl⟩) (by decide) 9 e16 rfl rfl hl.1 rfl (Nat.le_of_ble_eq_true rfl) dX9_point_77 ⟨Nat.le_of_ble_eq_true rfl, Nat.le_of_ble_eq_true rfl⟩ (fun r g H locs hw hP hD hS => ?_)
      obtain ⟨hrs, rfl⟩ := hw
      obtain ⟨x32, rfl⟩ : ∃ q, q = r := ⟨_, rfl⟩
      have h33 := hrs
      exact tI hx hb hr hlk rfl hP hS ⟨trivial, rfl⟩ dX9_point_80
    · have kc20 := (c_eq c20).trans tl_4
      refine lv_tableIn (off := 70) (tgt := 81) hx hb dX9_point_11 (by rw [kc20]; decide) (by rw [kc20]; decide) (by rw [kc20]; decide) (by decide) ?_
      refine lv_aload_n hx hb dX9_point_81 rfl (lv_at hl 0 rfl) ?_
      refine lv_iload_n hx hb dX9_point_82 rfl (lv_at hl 1 rfl) ?_
      refine tVI (As := [.int p1]) (rest := []) (i := 148) ⟨hx, hb, hml, hown, hts⟩ hK hE hP hD hS hA hAB (s_X9_leadingFrom_0 l B0 adK adV D cy ad fr0 c_text m_taped m_size m_faultKind m_faultPlace m_at m_end m_token m_number m_name c_points c_strands c_units c_told c_ruleFrom c_ruleTo c_code c_eWhat c_eSign m_bank m_rb m_codes m_within m_piled m_unitsInRule m_askStrand m_askTied m_thoughtClaim m_thoughtNeed m_thoughtAll c_roundOf m_acts m_undone m_laid m_firstMove m_seens m_time m_waysNow m_fitting f hT p1 (by omega) _) (cwV 1 hts gX9_point_X9_leadingFrom rfl rfl rfl (by decide +kernel) ⟨Nat.le_of_ble_eq_true rfl, Nat.le_of_ble_eq_true rfl⟩) (by decide) 9 e16 rfl rfl hl.1 rfl (Nat.le_of_ble_eq_true rfl) dX9_point_83 ⟨Nat.le_of_ble_eq_true rfl, Nat.le_of_ble_eq_true rfl⟩ (fun r g H locs hw hP hD hS => ?_)
      obtain ⟨hrs, rfl⟩ := hw
      obtain ⟨x34, rfl⟩ : ∃ q, q = r := ⟨_, rfl⟩
      have h35 := hrs
      exact tI hx hb hr hlk rfl hP hS ⟨trivial, rfl⟩ dX9_point_86
  · refine lv_if_ne (tgt := 10) hx hb dX9_point_5 (by decide) (fun c => absurd (by decide) c) (fun _ => ?_)
    refine lv_iconst (v := (-1)) hx hb dX9_point_8 (by decide) ?_
    have ttl_m1 := tl_m1
    exact tI hx hb hr hlk rfl hP hS ⟨trivial, rfl⟩ dX9_point_9
set_option maxHeartbeats 4000000 in
set_option maxRecDepth 100000 in
theorem s_X9_isThread_0 (l : Launch) (B0 : Nat) (adK adV : Nat → Nat) (D : va_G) (cy : Nat → ClassId) (ad : Nat → Nat) (fr0 : Nat → va_E) (c_text : Nat → Int32) (m_taped : Int32) (m_size : Int32) (m_faultKind : Int32) (m_faultPlace : Int32) (m_at : Int32) (m_end : Int32) (m_token : Int32) (m_number : Int32) (m_name : Int64) (c_points : Nat → Int32) (c_strands : Nat → Int32) (c_units : Nat → Int32) (c_told : Nat → Int32) (c_ruleFrom : Nat → Int32) (c_ruleTo : Nat → Int32) (c_code : Nat → Int32) (c_eWhat : Nat → Int32) (c_eSign : Nat → Int32) (m_bank : Int32) (m_rb : Int32) (m_codes : Int32) (m_within : Int32) (m_piled : Int32) (m_unitsInRule : Int32) (m_askStrand : Int32) (m_askTied : Int32) (m_thoughtClaim : Int32) (m_thoughtNeed : Int32) (m_thoughtAll : Int32) (c_roundOf : Nat → Int32) (m_acts : Int32) (m_undone : Int32) (m_laid : Int32) (m_firstMove : Int32) (m_seens : Int32) (m_time : Int32) (m_waysNow : Int32) (m_fitting : Int32) (f : Nat → va_E) (hT : TYm ad cy fr0 c_text m_taped m_size m_faultKind m_faultPlace m_at m_end m_token m_number m_name c_points c_strands c_units c_told c_ruleFrom c_ruleTo c_code c_eWhat c_eSign m_bank m_rb m_codes m_within m_piled m_unitsInRule m_askStrand m_askTied m_thoughtClaim m_thoughtNeed m_thoughtAll c_roundOf m_acts m_undone m_laid m_firstMove m_seens m_time m_waysNow m_fitting f) (p1 : Int32) (sz : Nat) : TtI l yX9_isThread wsX9_isThread 1 22 [.ref (ad 148), .int p1] B0 adK adV D cy ad f sz (fun (r : Int32) (g : Nat → va_E) => ((r = 1 ∧ 0 ≤ p1.toInt ∧ p1.toInt ≤ 11) ∨ (r = 0)) ∧ (f = g)) := by
  refine TtI.of (cc := cX9_isThread) (maxL := 2) (ty := .boolean) (own := RX9) (by decide) rfl (Nat.le_of_ble_eq_true rfl) rfl ?_
  intro p e s m below meth c A ls hx hb hr hml hts hown hlk hK hE hP hD hS hA hAB hl
  have hl : lv_has ls 2 [(0, .ref (ad 148)), (1, .int p1)] := hl
  refine st0 (fun H locs hP hS => ?_) hP hS
  refine lv_iload_n hx hb dX9_isThread_0 rfl (lv_at hl 1 rfl) ?_
  refine lv_iconst (v := 0) hx hb dX9_isThread_1 (by decide) ?_
  refine lv_aload_n hx hb dX9_isThread_2 rfl (lv_at hl 0 rfl) ?_
  obtain ⟨e16, h1, h2, h3, h4, h5, h6, h7, h8, h9, h10, h11, h12, h13, h14, h15⟩ := (show okX9 ad m_taped m_size m_faultKind m_faultPlace m_at m_end m_token m_number m_name m_bank m_rb m_codes m_within m_piled m_unitsInRule m_askStrand m_askTied m_thoughtClaim m_thoughtNeed m_thoughtAll m_acts m_undone m_laid m_firstMove m_seens m_time m_waysNow m_fitting 148 (f 148) from hT.1 148 (by decide))
  refine tVI (As := []) (rest := [.int 0, .int p1]) (i := 148) ⟨hx, hb, hml, hown, hts⟩ hK hE hP hD hS hA hAB (s_X9_threads_0 l B0 adK adV D cy ad fr0 c_text m_taped m_size m_faultKind m_faultPlace m_at m_end m_token m_number m_name c_points c_strands c_units c_told c_ruleFrom c_ruleTo c_code c_eWhat c_eSign m_bank m_rb m_codes m_within m_piled m_unitsInRule m_askStrand m_askTied m_thoughtClaim m_thoughtNeed m_thoughtAll c_roundOf m_acts m_undone m_laid m_firstMove m_seens m_time m_waysNow m_fitting f hT _) (cwV 0 hts gX9_isThread_X9_threads rfl rfl rfl (by decide +kernel) ⟨Nat.le_of_ble_eq_true rfl, Nat.le_of_ble_eq_true rfl⟩) (by decide) 9 e16 rfl rfl hl.1 rfl (Nat.le_of_ble_eq_true rfl) dX9_isThread_3 ⟨Nat.le_of_ble_eq_true rfl, Nat.le_of_ble_eq_true rfl⟩ (fun r g H locs hw hP hD hS => ?_)
  obtain ⟨hrs, rfl⟩ := hw
  obtain ⟨x17, rfl⟩ : ∃ q, q = r := ⟨_, rfl⟩
  have h18 := hrs
  refine lv_iconst (v := 1) hx hb dX9_isThread_6 (by decide) ?_
  have ttl_1 := tl_1
  refine lv_isub hx hb dX9_isThread_7 ?_
  refine lv_topi (fun x19 ex19 => ?_)
  have hx19 := r_sub ex19 (by omega) (by omega)
  have ttl_0 := tl_0
  refine tSI (As := [.int p1, .int 0, .int x19]) (rest := []) ⟨hx, hb, hml, hown, hts⟩ hK hE hP hD hS hA hAB (s_X9_isIn_0 l B0 adK adV D cy ad f p1 (0 : Int32) (by omega) x19 (by omega) _) (va_cwS 3 hts gX9_isThread_X9_isIn rfl rfl rfl (by decide +kernel) ⟨Nat.le_of_ble_eq_true rfl, Nat.le_of_ble_eq_true rfl⟩) rfl hl.1 rfl (Nat.le_of_ble_eq_true rfl) dX9_isThread_8 ⟨Nat.le_of_ble_eq_true rfl, Nat.le_of_ble_eq_true rfl⟩ (fun r g H locs hw hP hD hS => ?_)
  obtain ⟨hrs, rfl⟩ := hw
  obtain ⟨x20, rfl⟩ : ∃ q, q = r := ⟨_, rfl⟩
  rcases hrs with ⟨rfl, h21, h22⟩ | rfl
  · exact tI hx hb hr hlk rfl hP hS ⟨(Or.inl ⟨rfl, by omega, by omega⟩), rfl⟩ dX9_isThread_11
  · exact tI hx hb hr hlk rfl hP hS ⟨(Or.inr rfl), rfl⟩ dX9_isThread_11
set_option maxHeartbeats 4000000 in
set_option maxRecDepth 100000 in
theorem s_X9_bitsOf_0 (l : Launch) (B0 : Nat) (adK adV : Nat → Nat) (D : va_G) (cy : Nat → ClassId) (ad : Nat → Nat) (f : Nat → va_E) (p0 : Int32) (hp0 : 0 ≤ p0.toInt ∧ p0.toInt ≤ 4095) (sz : Nat) : TtI l yX9_bitsOf wsX9_bitsOf 0 0 [.int p0] B0 adK adV D cy ad f sz (fun (r : Int32) (g : Nat → va_E) => (0 ≤ r.toInt ∧ r.toInt ≤ 32 ∧ r.toInt = pcI p0) ∧ (f = g)) := by
  refine TtI.of (cc := cX9_bitsOf) (maxL := 3) (ty := .int) (own := RX9) (by decide) rfl (Nat.le_of_ble_eq_true rfl) rfl ?_
  intro p e s m below meth c A ls hx hb hr hml hts hown hlk hK hE hP hD hS hA hAB hl
  have hl : lv_has ls 3 [(0, .int p0)] := hl
  refine st0 (fun H locs hP hS => ?_) hP hS
  have j4 : ∀ (N : Nat) (H : Heap) (locs : List Loc) (ls : Array Slot) (v4_l2 : Int32) (v4_l1 : Int32), (pcI v4_l2 + 1 ≤ (N : Int)) → (0 ≤ v4_l2.toInt ∧ v4_l2.toInt ≤ 4095) → (0 ≤ v4_l1.toInt ∧ v4_l1.toInt ≤ 40) → (0 ≤ p0.toInt ∧ p0.toInt ≤ 4095) → (0 ≤ pcI v4_l2) → (v4_l1.toInt + pcI v4_l2 = pcI p0) → (0 ≤ v4_l1.toInt) → (pcI p0 ≤ 32) → (va_P D vwCl (wl ad f) H) → (va_D A (wl ad f)) → (va_S A s.heap H locs) → (lv_has ls 3 [(2, .int v4_l2), (1, .int v4_l1), (0, .int p0)]) → W p l e (rmO 0 0 0 0) s m ([.int p0] : List Value).toArray below meth c H locs 0 0 (MQ below (va_Qi (fun (r : Int32) (g : Nat → va_E) => (0 ≤ r.toInt ∧ r.toInt ≤ 32 ∧ r.toInt = pcI p0) ∧ (f = g)) (fun g t => PstT D ad g t) A) ([.int p0] : List Value).toArray s 0 0 A) (F0 m 4 ls []) := by
    intro N
    induction N with
    | zero => intro H locs ls v4_l2 v4_l1 hN hv4_l2 hv4_l1 hv4_l0 hJ4_0 hJ4_1 hJ4_2 hJ4_3 hP hD hS hl; exact absurd hN (by omega)
    | succ N ih4 =>
      intro H locs ls v4_l2 v4_l1 hN hv4_l2 hv4_l1 hv4_l0 hJ4_0 hJ4_1 hJ4_2 hJ4_3 hP hD hS hl
      have ha1 : 0 ≤ v4_l1.toInt ∧ v4_l1.toInt ≤ 32 := by omega
      refine lv_iload_n hx hb dX9_bitsOf_4 rfl (lv_at hl 0 rfl) ?_
      have ttl_0 := tl_0
      refine lv_if_eq (tgt := 20) hx hb dX9_bitsOf_5 (by decide) (fun c2 => ?_) (fun c2 => ?_)
      · have kc2 := c_eq c2
        have hpz := pcI_z (x := v4_l2) (by omega)
        refine lv_iload_n hx hb dX9_bitsOf_20 rfl (lv_at hl 1 rfl) ?_
        exact tI hx hb hr hlk rfl hP hS ⟨(by omega), rfl⟩ dX9_bitsOf_21
      · have kc2 := c_ne c2
        obtain ⟨x3, ex3⟩ : ∃ q : Int32, q = v4_l1 + Int32.ofInt (1) := ⟨_, rfl⟩
        refine lv_iinc (v := x3) (lv' := [(1, .int x3), (2, .int v4_l2), (0, .int p0)]) hx hb dX9_bitsOf_8 hl (k := 1) rfl ex3.symm (by decide) rfl (fun ls hl => ?_)
        have hx3 := r_inc ex3 (by decide) (by omega) (by omega)
        refine lv_iload_n hx hb dX9_bitsOf_11 rfl (lv_at hl 1 rfl) ?_
        refine lv_iload_n hx hb dX9_bitsOf_12 rfl (lv_at hl 1 rfl) ?_
        refine lv_iconst (v := 1) hx hb dX9_bitsOf_13 (by decide) ?_
        have ttl_1 := tl_1
        refine lv_isub hx hb dX9_bitsOf_14 ?_
        refine lv_topi (fun x4 ex4 => ?_)
        have hx4 := r_sub ex4 (by omega) (by omega)
        refine lv_iand hx hb dX9_bitsOf_15 ?_
        refine lv_topi (fun x5 ex5 => ?_)
        have hx5 := r_andr ex5 (by omega)
        have hps := pcI_step (z := x5) (x := v4_l2) (by assumption) (by assumption) (by omega)
        have hpq := pcI_rng x5
        refine lv_istore_n (lv' := [(2, .int x5), (1, .int x3), (0, .int p0)]) hx hb dX9_bitsOf_16 rfl hl (by decide) rfl (fun ls hl => ?_)
        refine lv_goto (tgt := 4) hx hb dX9_bitsOf_17 (by decide) ?_
        exact ih4 H locs ls x5 x3 (by omega) (by omega) (by omega) (by omega) (by omega) (by omega) (by omega) (by omega) hP hD hS (lv_sub hl [0, 1, 2] rfl)
  have hpr := pcI_rng p0
  refine lv_iconst (v := 0) hx hb dX9_bitsOf_0 (by decide) ?_
  refine lv_istore_n (lv' := [(1, .int 0), (0, .int p0)]) hx hb dX9_bitsOf_1 rfl hl (by decide) rfl (fun ls hl => ?_)
  refine lv_iload_n hx hb dX9_bitsOf_2 rfl (lv_at hl 1 rfl) ?_
  refine lv_istore_n (lv' := [(2, .int p0), (1, .int 0), (0, .int p0)]) hx hb dX9_bitsOf_3 rfl hl (by decide) rfl (fun ls hl => ?_)
  have ttl_0 := tl_0
  exact j4 (Int.toNat (pcI p0 + 1)) H locs ls p0 (0 : Int32) (by omega) (by omega) (by omega) (by omega) (by omega) (by omega) (by omega) (by omega) hP hD hS (lv_sub hl [0, 1, 2] rfl)
