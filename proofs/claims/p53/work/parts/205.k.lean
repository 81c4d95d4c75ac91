theorem dX9_two_0 : decode cX9_two 0 = .ok (.iload_n 0, 1) := by decide +kernel
theorem dX9_two_1 : decode cX9_two 1 = .ok (.tableswitch 202 37 62 #[143, 188, 202, 202, 202, 127, 119, 202, 123, 202, 131, 202, 202, 202, 202, 202, 202, 202, 202, 202, 202, 202, 202, 155, 177, 166], 119) := by decide +kernel
theorem dX9_two_120 : decode cX9_two 120 = .ok (.iload_n 1, 1) := by decide +kernel
theorem dX9_two_121 : decode cX9_two 121 = .ok (.iload_n 2, 1) := by decide +kernel
theorem dX9_two_122 : decode cX9_two 122 = .ok (.iadd, 1) := by decide +kernel
theorem dX9_two_123 : decode cX9_two 123 = .ok (.ireturn, 1) := by decide +kernel
theorem dX9_two_124 : decode cX9_two 124 = .ok (.iload_n 1, 1) := by decide +kernel
theorem dX9_two_125 : decode cX9_two 125 = .ok (.iload_n 2, 1) := by decide +kernel
theorem dX9_two_126 : decode cX9_two 126 = .ok (.isub, 1) := by decide +kernel
theorem dX9_two_127 : decode cX9_two 127 = .ok (.ireturn, 1) := by decide +kernel
theorem dX9_two_128 : decode cX9_two 128 = .ok (.iload_n 1, 1) := by decide +kernel
theorem dX9_two_129 : decode cX9_two 129 = .ok (.iload_n 2, 1) := by decide +kernel
theorem dX9_two_130 : decode cX9_two 130 = .ok (.imul, 1) := by decide +kernel
theorem dX9_two_131 : decode cX9_two 131 = .ok (.ireturn, 1) := by decide +kernel
theorem dX9_two_132 : decode cX9_two 132 = .ok (.iload_n 2, 1) := by decide +kernel
theorem dX9_two_133 : decode cX9_two 133 = .ok (.ifCond .ne 7, 3) := by decide +kernel
theorem dX9_two_136 : decode cX9_two 136 = .ok (.iconst 0, 1) := by decide +kernel
theorem dX9_two_137 : decode cX9_two 137 = .ok (.goto 6, 3) := by decide +kernel
theorem dX9_two_140 : decode cX9_two 140 = .ok (.iload_n 1, 1) := by decide +kernel
theorem dX9_two_141 : decode cX9_two 141 = .ok (.iload_n 2, 1) := by decide +kernel
theorem dX9_two_142 : decode cX9_two 142 = .ok (.idiv, 1) := by decide +kernel
theorem dX9_two_143 : decode cX9_two 143 = .ok (.ireturn, 1) := by decide +kernel
theorem dX9_two_144 : decode cX9_two 144 = .ok (.iload_n 2, 1) := by decide +kernel
theorem dX9_two_145 : decode cX9_two 145 = .ok (.ifCond .ne 7, 3) := by decide +kernel
theorem dX9_two_148 : decode cX9_two 148 = .ok (.iconst 0, 1) := by decide +kernel
theorem dX9_two_149 : decode cX9_two 149 = .ok (.goto 6, 3) := by decide +kernel
theorem dX9_two_152 : decode cX9_two 152 = .ok (.iload_n 1, 1) := by decide +kernel
theorem dX9_two_153 : decode cX9_two 153 = .ok (.iload_n 2, 1) := by decide +kernel
theorem dX9_two_154 : decode cX9_two 154 = .ok (.irem, 1) := by decide +kernel
theorem dX9_two_155 : decode cX9_two 155 = .ok (.ireturn, 1) := by decide +kernel
theorem dX9_two_156 : decode cX9_two 156 = .ok (.iload_n 1, 1) := by decide +kernel
theorem dX9_two_157 : decode cX9_two 157 = .ok (.iload_n 2, 1) := by decide +kernel
theorem dX9_two_158 : decode cX9_two 158 = .ok (.if_icmp .ge 7, 3) := by decide +kernel
theorem dX9_two_161 : decode cX9_two 161 = .ok (.iconst 1, 1) := by decide +kernel
theorem dX9_two_162 : decode cX9_two 162 = .ok (.goto 4, 3) := by decide +kernel
theorem dX9_two_165 : decode cX9_two 165 = .ok (.iconst 0, 1) := by decide +kernel
theorem dX9_two_166 : decode cX9_two 166 = .ok (.ireturn, 1) := by decide +kernel
theorem dX9_two_167 : decode cX9_two 167 = .ok (.iload_n 1, 1) := by decide +kernel
theorem dX9_two_168 : decode cX9_two 168 = .ok (.iload_n 2, 1) := by decide +kernel
theorem dX9_two_169 : decode cX9_two 169 = .ok (.if_icmp .le 7, 3) := by decide +kernel
theorem dX9_two_172 : decode cX9_two 172 = .ok (.iconst 1, 1) := by decide +kernel
theorem dX9_two_173 : decode cX9_two 173 = .ok (.goto 4, 3) := by decide +kernel
theorem dX9_two_176 : decode cX9_two 176 = .ok (.iconst 0, 1) := by decide +kernel
theorem dX9_two_177 : decode cX9_two 177 = .ok (.ireturn, 1) := by decide +kernel
theorem dX9_two_178 : decode cX9_two 178 = .ok (.iload_n 1, 1) := by decide +kernel
theorem dX9_two_179 : decode cX9_two 179 = .ok (.iload_n 2, 1) := by decide +kernel
theorem dX9_two_180 : decode cX9_two 180 = .ok (.if_icmp .ne 7, 3) := by decide +kernel
theorem dX9_two_183 : decode cX9_two 183 = .ok (.iconst 1, 1) := by decide +kernel
theorem dX9_two_184 : decode cX9_two 184 = .ok (.goto 4, 3) := by decide +kernel
theorem dX9_two_187 : decode cX9_two 187 = .ok (.iconst 0, 1) := by decide +kernel
theorem dX9_two_188 : decode cX9_two 188 = .ok (.ireturn, 1) := by decide +kernel
theorem dX9_two_189 : decode cX9_two 189 = .ok (.iload_n 1, 1) := by decide +kernel
theorem dX9_two_190 : decode cX9_two 190 = .ok (.ifCond .eq 11, 3) := by decide +kernel
theorem dX9_two_193 : decode cX9_two 193 = .ok (.iload_n 2, 1) := by decide +kernel
theorem dX9_two_194 : decode cX9_two 194 = .ok (.ifCond .eq 7, 3) := by decide +kernel
theorem dX9_two_197 : decode cX9_two 197 = .ok (.iconst 1, 1) := by decide +kernel
theorem dX9_two_198 : decode cX9_two 198 = .ok (.goto 4, 3) := by decide +kernel
theorem dX9_two_201 : decode cX9_two 201 = .ok (.iconst 0, 1) := by decide +kernel
theorem dX9_two_202 : decode cX9_two 202 = .ok (.ireturn, 1) := by decide +kernel
theorem dX9_two_203 : decode cX9_two 203 = .ok (.iload_n 1, 1) := by decide +kernel
theorem dX9_two_204 : decode cX9_two 204 = .ok (.ifCond .ne 7, 3) := by decide +kernel
theorem dX9_two_207 : decode cX9_two 207 = .ok (.iload_n 2, 1) := by decide +kernel
theorem dX9_two_208 : decode cX9_two 208 = .ok (.ifCond .eq 7, 3) := by decide +kernel
theorem dX9_two_211 : decode cX9_two 211 = .ok (.iconst 1, 1) := by decide +kernel
theorem dX9_two_212 : decode cX9_two 212 = .ok (.goto 4, 3) := by decide +kernel
theorem dX9_two_215 : decode cX9_two 215 = .ok (.iconst 0, 1) := by decide +kernel
theorem dX9_two_216 : decode cX9_two 216 = .ok (.ireturn, 1) := by decide +kernel
set_option maxRecDepth 20000 in
theorem ggX9_asked_X9_toOf : GoodIn wsX9_asked wsX9_toOf := goodIn_r _ [8, 9, 10, 40, 41, 42, 43, 44, 45, 46, 47, 48, 49, 50, 51, 52, 53, 54, 55, 56, 57, 58, 59, 60, 61, 62, 63, 64, 65, 66, 67, 68, 69, 70, 71, 72, 73, 74, 75, 76, 77, 78, 79, 80, 81, 82, 83, 84, 85, 86, 87, 88, 89, 90, 91, 92, 93, 94, 95, 96, 97, 98, 99, 100, 101, 102, 103] rfl rfl
set_option maxRecDepth 20000 in
theorem gX9_asked_X9_toOf : GoodIn wsX9_asked (wsV RX9 315 RX9 yX9_toOf wsX9_toOf) := goodIn_app (goodIn_of _ (by decide +kernel)) ggX9_asked_X9_toOf
set_option maxRecDepth 20000 in
theorem ggX9_asked_X9_leadingTo : GoodIn wsX9_asked wsX9_leadingTo := goodIn_r _ [14, 15, 16, 17, 7, 18, 19, 10, 4, 5, 6, 8, 9, 40, 41, 42, 43, 44, 45, 46, 47, 48, 49, 50, 51, 52, 53, 54, 55, 56, 57, 58, 59, 60, 61, 62, 63, 64, 65, 66, 67, 68, 69, 70, 71, 72, 73, 74, 75, 76, 77, 78, 79, 80, 81, 82, 83, 84, 85, 86, 87, 88, 89, 90, 91, 92, 93, 94, 95, 96, 97, 98, 99, 100, 101, 102, 103] rfl rfl
set_option maxRecDepth 20000 in
theorem gX9_asked_X9_leadingTo : GoodIn wsX9_asked (wsV RX9 318 RX9 yX9_leadingTo wsX9_leadingTo) := goodIn_app (goodIn_of _ (by decide +kernel)) ggX9_asked_X9_leadingTo
set_option maxRecDepth 20000 in
theorem ggX9_asked_X9_bitsOf : GoodIn wsX9_asked wsX9_bitsOf := goodIn_r _ [22] rfl rfl
set_option maxRecDepth 20000 in
theorem gX9_asked_X9_bitsOf : GoodIn wsX9_asked (va_wsS RX9 324 yX9_bitsOf wsX9_bitsOf) := goodIn_app (goodIn_of _ (by decide +kernel)) ggX9_asked_X9_bitsOf
set_option maxRecDepth 20000 in
theorem ggX9_asked_X9_fromOf : GoodIn wsX9_asked wsX9_fromOf := goodIn_r _ [26, 27, 10, 40, 41, 42, 43, 44, 45, 46, 47, 48, 49, 50, 51, 52, 53, 54, 55, 56, 57, 58, 59, 60, 61, 62, 63, 64, 65, 66, 67, 68, 69, 70, 71, 72, 73, 74, 75, 76, 77, 78, 79, 80, 81, 82, 83, 84, 85, 86, 87, 88, 89, 90, 91, 92, 93, 94, 95, 96, 97, 98, 99, 100, 101, 102, 103] rfl rfl
set_option maxRecDepth 20000 in
theorem gX9_asked_X9_fromOf : GoodIn wsX9_asked (wsV RX9 327 RX9 yX9_fromOf wsX9_fromOf) := goodIn_app (goodIn_of _ (by decide +kernel)) ggX9_asked_X9_fromOf
set_option maxRecDepth 20000 in
theorem ggX9_asked_X9_leadingFrom : GoodIn wsX9_asked wsX9_leadingFrom := goodIn_r _ [31, 15, 16, 17, 7, 18, 19, 10, 23, 24, 25, 26, 27, 40, 41, 42, 43, 44, 45, 46, 47, 48, 49, 50, 51, 52, 53, 54, 55, 56, 57, 58, 59, 60, 61, 62, 63, 64, 65, 66, 67, 68, 69, 70, 71, 72, 73, 74, 75, 76, 77, 78, 79, 80, 81, 82, 83, 84, 85, 86, 87, 88, 89, 90, 91, 92, 93, 94, 95, 96, 97, 98, 99, 100, 101, 102, 103] rfl rfl
set_option maxRecDepth 20000 in
theorem gX9_asked_X9_leadingFrom : GoodIn wsX9_asked (wsV RX9 330 RX9 yX9_leadingFrom wsX9_leadingFrom) := goodIn_app (goodIn_of _ (by decide +kernel)) ggX9_asked_X9_leadingFrom
set_option maxRecDepth 20000 in
theorem ggX9_asked_X9_needOf : GoodIn wsX9_asked wsX9_needOf := goodIn_r _ [35, 36, 37, 38, 39, 10, 40, 41, 42, 43, 44, 45, 46, 47, 48, 49, 50, 51, 52, 53, 54, 55, 56, 57, 58, 59, 60, 61, 62, 63, 64, 65, 66, 67, 68, 69, 70, 71, 72, 73, 74, 75, 76, 77, 78, 79, 80, 81, 82, 83, 84, 85, 86, 87, 88, 89, 90, 91, 92, 93, 94, 95, 96, 97, 98, 99, 100, 101, 102, 103] rfl rfl
set_option maxRecDepth 20000 in
theorem gX9_asked_X9_needOf : GoodIn wsX9_asked (wsV RX9 333 RX9 yX9_needOf wsX9_needOf) := goodIn_app (goodIn_of _ (by decide +kernel)) ggX9_asked_X9_needOf
theorem dX9_asked_0 : decode cX9_asked 0 = .ok (.iload_n 1, 1) := by decide +kernel
theorem dX9_asked_1 : decode cX9_asked 1 = .ok (.lookupswitch 126 #[(98, 84), (100, 118), (101, 105), (103, 63), (115, 51)], 51) := by decide +kernel
theorem dX9_asked_52 : decode cX9_asked 52 = .ok (.aload_n 0, 1) := by decide +kernel
theorem dX9_asked_53 : decode cX9_asked 53 = .ok (.getfield 76, 3) := by decide +kernel
theorem dX9_asked_56 : decode cX9_asked 56 = .ok (.iconst 2, 1) := by decide +kernel
theorem dX9_asked_57 : decode cX9_asked 57 = .ok (.aload_n 0, 1) := by decide +kernel
theorem dX9_asked_58 : decode cX9_asked 58 = .ok (.getfield 312, 3) := by decide +kernel
theorem dX9_asked_61 : decode cX9_asked 61 = .ok (.iadd, 1) := by decide +kernel
theorem dX9_asked_62 : decode cX9_asked 62 = .ok (.iaload, 1) := by decide +kernel
theorem dX9_asked_63 : decode cX9_asked 63 = .ok (.ireturn, 1) := by decide +kernel
theorem dX9_asked_64 : decode cX9_asked 64 = .ok (.aload_n 0, 1) := by decide +kernel
theorem dX9_asked_65 : decode cX9_asked 65 = .ok (.aload_n 0, 1) := by decide +kernel
theorem dX9_asked_66 : decode cX9_asked 66 = .ok (.aload_n 0, 1) := by decide +kernel
theorem dX9_asked_67 : decode cX9_asked 67 = .ok (.getfield 312, 3) := by decide +kernel
theorem dX9_asked_70 : decode cX9_asked 70 = .ok (.invokevirtual 315, 3) := by decide +kernel
theorem dX9_asked_73 : decode cX9_asked 73 = .ok (.invokevirtual 318, 3) := by decide +kernel
theorem dX9_asked_76 : decode cX9_asked 76 = .ok (.aload_n 0, 1) := by decide +kernel
theorem dX9_asked_77 : decode cX9_asked 77 = .ok (.getfield 321, 3) := by decide +kernel
theorem dX9_asked_80 : decode cX9_asked 80 = .ok (.iand, 1) := by decide +kernel
theorem dX9_asked_81 : decode cX9_asked 81 = .ok (.invokestatic 324, 3) := by decide +kernel
theorem dX9_asked_84 : decode cX9_asked 84 = .ok (.ireturn, 1) := by decide +kernel
theorem dX9_asked_85 : decode cX9_asked 85 = .ok (.aload_n 0, 1) := by decide +kernel
theorem dX9_asked_86 : decode cX9_asked 86 = .ok (.aload_n 0, 1) := by decide +kernel
theorem dX9_asked_87 : decode cX9_asked 87 = .ok (.aload_n 0, 1) := by decide +kernel
theorem dX9_asked_88 : decode cX9_asked 88 = .ok (.getfield 312, 3) := by decide +kernel
theorem dX9_asked_91 : decode cX9_asked 91 = .ok (.invokevirtual 327, 3) := by decide +kernel
theorem dX9_asked_94 : decode cX9_asked 94 = .ok (.invokevirtual 330, 3) := by decide +kernel
theorem dX9_asked_97 : decode cX9_asked 97 = .ok (.aload_n 0, 1) := by decide +kernel
theorem dX9_asked_98 : decode cX9_asked 98 = .ok (.getfield 321, 3) := by decide +kernel
theorem dX9_asked_101 : decode cX9_asked 101 = .ok (.iand, 1) := by decide +kernel
theorem dX9_asked_102 : decode cX9_asked 102 = .ok (.invokestatic 324, 3) := by decide +kernel
theorem dX9_asked_105 : decode cX9_asked 105 = .ok (.ireturn, 1) := by decide +kernel
theorem dX9_asked_106 : decode cX9_asked 106 = .ok (.aload_n 0, 1) := by decide +kernel
theorem dX9_asked_107 : decode cX9_asked 107 = .ok (.aload_n 0, 1) := by decide +kernel
theorem dX9_asked_108 : decode cX9_asked 108 = .ok (.aload_n 0, 1) := by decide +kernel
theorem dX9_asked_109 : decode cX9_asked 109 = .ok (.getfield 312, 3) := by decide +kernel
theorem dX9_asked_112 : decode cX9_asked 112 = .ok (.invokevirtual 315, 3) := by decide +kernel
theorem dX9_asked_115 : decode cX9_asked 115 = .ok (.invokevirtual 333, 3) := by decide +kernel
theorem dX9_asked_118 : decode cX9_asked 118 = .ok (.ireturn, 1) := by decide +kernel
theorem dX9_asked_119 : decode cX9_asked 119 = .ok (.aload_n 0, 1) := by decide +kernel
theorem dX9_asked_120 : decode cX9_asked 120 = .ok (.getfield 76, 3) := by decide +kernel
theorem dX9_asked_123 : decode cX9_asked 123 = .ok (.bipush 14, 2) := by decide +kernel
theorem dX9_asked_125 : decode cX9_asked 125 = .ok (.iaload, 1) := by decide +kernel
theorem dX9_asked_126 : decode cX9_asked 126 = .ok (.ireturn, 1) := by decide +kernel
theorem dX9_asked_127 : decode cX9_asked 127 = .ok (.iload_n 2, 1) := by decide +kernel
theorem dX9_asked_128 : decode cX9_asked 128 = .ok (.ireturn, 1) := by decide +kernel
set_option maxRecDepth 20000 in
theorem ggX9_comes_X9_isLetter : GoodIn wsX9_comes wsX9_isLetter := goodIn_r _ [10] rfl rfl
set_option maxRecDepth 20000 in
theorem gX9_comes_X9_isLetter : GoodIn wsX9_comes (va_wsS RX9 184 yX9_isLetter wsX9_isLetter) := goodIn_app (goodIn_of _ (by decide +kernel)) ggX9_comes_X9_isLetter
set_option maxRecDepth 20000 in
theorem ggX9_comes_X9_asked : GoodIn wsX9_comes wsX9_asked := goodIn_r _ [14, 15, 16, 17, 18, 19, 20, 9, 21, 22, 2, 23, 24, 25, 26, 27, 28, 29, 30, 31, 32, 33, 34, 35, 36, 37, 38, 39, 40, 41, 42, 43, 44, 45, 46, 47, 48, 49, 50, 51, 55, 56, 57, 58, 59, 60, 61, 62, 63, 64, 65, 66, 67, 68, 69, 70, 71, 72, 73, 74, 75, 76, 77, 78, 79, 80, 81, 82, 83, 84, 85, 86, 87, 88, 89, 90, 91, 92, 93, 94, 95, 96, 97, 98, 99, 100, 101, 102, 103, 104, 105, 106, 107, 108, 109, 110, 111, 112, 113, 114, 115, 116, 117, 118] rfl rfl
set_option maxRecDepth 20000 in
theorem gX9_comes_X9_asked : GoodIn wsX9_comes (wsV RX9 336 RX9 yX9_asked wsX9_asked) := goodIn_app (goodIn_of _ (by decide +kernel)) ggX9_comes_X9_asked
set_option maxRecDepth 20000 in
theorem ggX9_comes_X9_two : GoodIn wsX9_comes wsX9_two := goodIn_r _ [54] rfl rfl
set_option maxRecDepth 20000 in
theorem gX9_comes_X9_two : GoodIn wsX9_comes (va_wsS RX9 339 yX9_two wsX9_two) := goodIn_app (goodIn_of _ (by decide +kernel)) ggX9_comes_X9_two
theorem dX9_comes_0 : decode cX9_comes 0 = .ok (.iconst 0, 1) := by decide +kernel
theorem dX9_comes_1 : decode cX9_comes 1 = .ok (.istore_n 1, 1) := by decide +kernel
theorem dX9_comes_2 : decode cX9_comes 2 = .ok (.aload_n 0, 1) := by decide +kernel
theorem dX9_comes_3 : decode cX9_comes 3 = .ok (.getfield 51, 3) := by decide +kernel
theorem dX9_comes_6 : decode cX9_comes 6 = .ok (.aload_n 0, 1) := by decide +kernel
theorem dX9_comes_7 : decode cX9_comes 7 = .ok (.getfield 239, 3) := by decide +kernel
theorem dX9_comes_10 : decode cX9_comes 10 = .ok (.iaload, 1) := by decide +kernel
theorem dX9_comes_11 : decode cX9_comes 11 = .ok (.istore_n 2, 1) := by decide +kernel
theorem dX9_comes_12 : decode cX9_comes 12 = .ok (.iload_n 2, 1) := by decide +kernel
theorem dX9_comes_13 : decode cX9_comes 13 = .ok (.aload_n 0, 1) := by decide +kernel
theorem dX9_comes_14 : decode cX9_comes 14 = .ok (.getfield 54, 3) := by decide +kernel
theorem dX9_comes_17 : decode cX9_comes 17 = .ok (.aload_n 0, 1) := by decide +kernel
theorem dX9_comes_18 : decode cX9_comes 18 = .ok (.getfield 239, 3) := by decide +kernel
theorem dX9_comes_21 : decode cX9_comes 21 = .ok (.iaload, 1) := by decide +kernel
theorem dX9_comes_22 : decode cX9_comes 22 = .ok (.if_icmp .ge 108, 3) := by decide +kernel
theorem dX9_comes_25 : decode cX9_comes 25 = .ok (.aload_n 0, 1) := by decide +kernel
theorem dX9_comes_26 : decode cX9_comes 26 = .ok (.getfield 61, 3) := by decide +kernel
theorem dX9_comes_29 : decode cX9_comes 29 = .ok (.iload_n 2, 1) := by decide +kernel
theorem dX9_comes_30 : decode cX9_comes 30 = .ok (.iaload, 1) := by decide +kernel
theorem dX9_comes_31 : decode cX9_comes 31 = .ok (.istore_n 3, 1) := by decide +kernel
theorem dX9_comes_32 : decode cX9_comes 32 = .ok (.iload_n 3, 1) := by decide +kernel
theorem dX9_comes_33 : decode cX9_comes 33 = .ok (.bipush 126, 2) := by decide +kernel
theorem dX9_comes_35 : decode cX9_comes 35 = .ok (.if_icmp .ne 30, 3) := by decide +kernel
theorem dX9_comes_38 : decode cX9_comes 38 = .ok (.aload_n 0, 1) := by decide +kernel
theorem dX9_comes_39 : decode cX9_comes 39 = .ok (.getfield 73, 3) := by decide +kernel
theorem dX9_comes_42 : decode cX9_comes 42 = .ok (.iload_n 1, 1) := by decide +kernel
theorem dX9_comes_43 : decode cX9_comes 43 = .ok (.iconst 1, 1) := by decide +kernel
theorem dX9_comes_44 : decode cX9_comes 44 = .ok (.isub, 1) := by decide +kernel
theorem dX9_comes_45 : decode cX9_comes 45 = .ok (.aload_n 0, 1) := by decide +kernel
theorem dX9_comes_46 : decode cX9_comes 46 = .ok (.getfield 73, 3) := by decide +kernel
theorem dX9_comes_49 : decode cX9_comes 49 = .ok (.iload_n 1, 1) := by decide +kernel
theorem dX9_comes_50 : decode cX9_comes 50 = .ok (.iconst 1, 1) := by decide +kernel
theorem dX9_comes_51 : decode cX9_comes 51 = .ok (.isub, 1) := by decide +kernel
theorem dX9_comes_52 : decode cX9_comes 52 = .ok (.iaload, 1) := by decide +kernel
theorem dX9_comes_53 : decode cX9_comes 53 = .ok (.ifCond .ne 7, 3) := by decide +kernel
theorem dX9_comes_56 : decode cX9_comes 56 = .ok (.iconst 1, 1) := by decide +kernel
theorem dX9_comes_57 : decode cX9_comes 57 = .ok (.goto 4, 3) := by decide +kernel
theorem dX9_comes_60 : decode cX9_comes 60 = .ok (.iconst 0, 1) := by decide +kernel
theorem dX9_comes_61 : decode cX9_comes 61 = .ok (.iastore, 1) := by decide +kernel
theorem dX9_comes_62 : decode cX9_comes 62 = .ok (.goto 62, 3) := by decide +kernel
theorem dX9_comes_65 : decode cX9_comes 65 = .ok (.iload_n 3, 1) := by decide +kernel
theorem dX9_comes_66 : decode cX9_comes 66 = .ok (.invokestatic 184, 3) := by decide +kernel
theorem dX9_comes_69 : decode cX9_comes 69 = .ok (.ifCond .eq 26, 3) := by decide +kernel
theorem dX9_comes_72 : decode cX9_comes 72 = .ok (.aload_n 0, 1) := by decide +kernel
theorem dX9_comes_73 : decode cX9_comes 73 = .ok (.getfield 73, 3) := by decide +kernel
theorem dX9_comes_76 : decode cX9_comes 76 = .ok (.iload_n 1, 1) := by decide +kernel
theorem dX9_comes_77 : decode cX9_comes 77 = .ok (.aload_n 0, 1) := by decide +kernel
theorem dX9_comes_78 : decode cX9_comes 78 = .ok (.iload_n 3, 1) := by decide +kernel
theorem dX9_comes_79 : decode cX9_comes 79 = .ok (.aload_n 0, 1) := by decide +kernel
theorem dX9_comes_80 : decode cX9_comes 80 = .ok (.getfield 64, 3) := by decide +kernel
theorem dX9_comes_83 : decode cX9_comes 83 = .ok (.iload_n 2, 1) := by decide +kernel
theorem dX9_comes_84 : decode cX9_comes 84 = .ok (.iaload, 1) := by decide +kernel
theorem dX9_comes_85 : decode cX9_comes 85 = .ok (.invokevirtual 336, 3) := by decide +kernel
theorem dX9_comes_88 : decode cX9_comes 88 = .ok (.iastore, 1) := by decide +kernel
theorem dX9_comes_89 : decode cX9_comes 89 = .ok (.iinc 1 1, 3) := by decide +kernel
theorem dX9_comes_92 : decode cX9_comes 92 = .ok (.goto 32, 3) := by decide +kernel
theorem dX9_comes_95 : decode cX9_comes 95 = .ok (.iinc 1 (-1), 3) := by decide +kernel
theorem dX9_comes_98 : decode cX9_comes 98 = .ok (.aload_n 0, 1) := by decide +kernel
theorem dX9_comes_99 : decode cX9_comes 99 = .ok (.getfield 73, 3) := by decide +kernel
theorem dX9_comes_102 : decode cX9_comes 102 = .ok (.iload_n 1, 1) := by decide +kernel
theorem dX9_comes_103 : decode cX9_comes 103 = .ok (.iconst 1, 1) := by decide +kernel
theorem dX9_comes_104 : decode cX9_comes 104 = .ok (.isub, 1) := by decide +kernel
theorem dX9_comes_105 : decode cX9_comes 105 = .ok (.iload_n 3, 1) := by decide +kernel
theorem dX9_comes_106 : decode cX9_comes 106 = .ok (.aload_n 0, 1) := by decide +kernel
theorem dX9_comes_107 : decode cX9_comes 107 = .ok (.getfield 73, 3) := by decide +kernel
theorem dX9_comes_110 : decode cX9_comes 110 = .ok (.iload_n 1, 1) := by decide +kernel
theorem dX9_comes_111 : decode cX9_comes 111 = .ok (.iconst 1, 1) := by decide +kernel
theorem dX9_comes_112 : decode cX9_comes 112 = .ok (.isub, 1) := by decide +kernel
theorem dX9_comes_113 : decode cX9_comes 113 = .ok (.iaload, 1) := by decide +kernel
theorem dX9_comes_114 : decode cX9_comes 114 = .ok (.aload_n 0, 1) := by decide +kernel
theorem dX9_comes_115 : decode cX9_comes 115 = .ok (.getfield 73, 3) := by decide +kernel
theorem dX9_comes_118 : decode cX9_comes 118 = .ok (.iload_n 1, 1) := by decide +kernel
theorem dX9_comes_119 : decode cX9_comes 119 = .ok (.iaload, 1) := by decide +kernel
theorem dX9_comes_120 : decode cX9_comes 120 = .ok (.invokestatic 339, 3) := by decide +kernel
theorem dX9_comes_123 : decode cX9_comes 123 = .ok (.iastore, 1) := by decide +kernel
theorem dX9_comes_124 : decode cX9_comes 124 = .ok (.iinc 2 1, 3) := by decide +kernel
theorem dX9_comes_127 : decode cX9_comes 127 = .ok (.goto (-115), 3) := by decide +kernel
theorem dX9_comes_130 : decode cX9_comes 130 = .ok (.aload_n 0, 1) := by decide +kernel
theorem dX9_comes_131 : decode cX9_comes 131 = .ok (.getfield 73, 3) := by decide +kernel
theorem dX9_comes_134 : decode cX9_comes 134 = .ok (.iconst 0, 1) := by decide +kernel
theorem dX9_comes_135 : decode cX9_comes 135 = .ok (.iaload, 1) := by decide +kernel
theorem dX9_comes_136 : decode cX9_comes 136 = .ok (.ireturn, 1) := by decide +kernel
theorem dX9_held_0 : decode cX9_held 0 = .ok (.iload_n 0, 1) := by decide +kernel
theorem dX9_held_1 : decode cX9_held 1 = .ok (.iload_n 1, 1) := by decide +kernel
theorem dX9_held_2 : decode cX9_held 2 = .ok (.if_icmp .ge 7, 3) := by decide +kernel
theorem dX9_held_5 : decode cX9_held 5 = .ok (.iload_n 1, 1) := by decide +kernel
theorem dX9_held_6 : decode cX9_held 6 = .ok (.goto 13, 3) := by decide +kernel
theorem dX9_held_9 : decode cX9_held 9 = .ok (.iload_n 0, 1) := by decide +kernel
theorem dX9_held_10 : decode cX9_held 10 = .ok (.iload_n 2, 1) := by decide +kernel
theorem dX9_held_11 : decode cX9_held 11 = .ok (.if_icmp .le 7, 3) := by decide +kernel
theorem dX9_held_14 : decode cX9_held 14 = .ok (.iload_n 2, 1) := by decide +kernel
theorem dX9_held_15 : decode cX9_held 15 = .ok (.goto 4, 3) := by decide +kernel
theorem dX9_held_18 : decode cX9_held 18 = .ok (.iload_n 0, 1) := by decide +kernel
theorem dX9_held_19 : decode cX9_held 19 = .ok (.ireturn, 1) := by decide +kernel
set_option maxRecDepth 20000 in
theorem ggX9_isClaim_X9_isPoint : GoodIn wsX9_isClaim wsX9_isPoint := goodIn_r _ [7, 8, 9, 10, 6, 11, 12, 2, 13, 14, 15, 16, 17, 18, 19, 20, 21, 22, 23, 24, 25, 26, 27, 28, 29, 30, 31, 32, 33, 34, 35, 36, 37, 38, 39, 40, 41, 42, 43, 44, 45, 46, 47, 48, 49, 50, 51, 52, 53, 54, 55, 56, 57, 58, 59, 60, 61, 62, 63, 64, 65, 66, 67, 68, 69, 70, 71, 72, 73, 74, 75, 76, 77, 78, 79] rfl rfl
set_option maxRecDepth 20000 in
theorem gX9_isClaim_X9_isPoint : GoodIn wsX9_isClaim (wsV RX9 353 RX9 yX9_isPoint wsX9_isPoint) := goodIn_app (goodIn_of _ (by decide +kernel)) ggX9_isClaim_X9_isPoint
theorem dX9_isClaim_0 : decode cX9_isClaim 0 = .ok (.aload_n 0, 1) := by decide +kernel
theorem dX9_isClaim_1 : decode cX9_isClaim 1 = .ok (.iload_n 1, 1) := by decide +kernel
theorem dX9_isClaim_2 : decode cX9_isClaim 2 = .ok (.invokevirtual 353, 3) := by decide +kernel
theorem dX9_isClaim_5 : decode cX9_isClaim 5 = .ok (.ifCond .eq 24, 3) := by decide +kernel
theorem dX9_isClaim_8 : decode cX9_isClaim 8 = .ok (.aload_n 0, 1) := by decide +kernel
theorem dX9_isClaim_9 : decode cX9_isClaim 9 = .ok (.getfield 39, 3) := by decide +kernel
theorem dX9_isClaim_12 : decode cX9_isClaim 12 = .ok (.bipush 10, 2) := by decide +kernel
theorem dX9_isClaim_14 : decode cX9_isClaim 14 = .ok (.aload_n 0, 1) := by decide +kernel
theorem dX9_isClaim_15 : decode cX9_isClaim 15 = .ok (.getfield 239, 3) := by decide +kernel
theorem dX9_isClaim_18 : decode cX9_isClaim 18 = .ok (.imul, 1) := by decide +kernel
theorem dX9_isClaim_19 : decode cX9_isClaim 19 = .ok (.iload_n 1, 1) := by decide +kernel
theorem dX9_isClaim_20 : decode cX9_isClaim 20 = .ok (.iadd, 1) := by decide +kernel
theorem dX9_isClaim_21 : decode cX9_isClaim 21 = .ok (.iaload, 1) := by decide +kernel
theorem dX9_isClaim_22 : decode cX9_isClaim 22 = .ok (.ifCond .le 7, 3) := by decide +kernel
theorem dX9_isClaim_25 : decode cX9_isClaim 25 = .ok (.iconst 1, 1) := by decide +kernel
theorem dX9_isClaim_26 : decode cX9_isClaim 26 = .ok (.goto 4, 3) := by decide +kernel
theorem dX9_isClaim_29 : decode cX9_isClaim 29 = .ok (.iconst 0, 1) := by decide +kernel
theorem dX9_isClaim_30 : decode cX9_isClaim 30 = .ok (.ireturn, 1) := by decide +kernel
set_option maxRecDepth 20000 in
theorem ggX9_facts_X9_many : GoodIn wsX9_facts wsX9_many := goodIn_r _ [5, 6, 7, 20, 21, 22, 23, 24, 25, 26, 27, 28, 29, 30, 31, 32, 33, 34, 35, 36, 37, 38, 39, 40, 41, 42, 43, 44, 45, 46, 47, 48, 49, 50, 51, 52, 53, 54, 55, 56, 57, 58, 59, 60, 61, 62, 63, 64, 65, 66, 67, 68, 69, 70, 71, 72, 73, 74, 75, 76, 77, 78, 79, 80, 81, 82, 83] rfl rfl
set_option maxRecDepth 20000 in
theorem gX9_facts_X9_many : GoodIn wsX9_facts (wsV RX9 343 RX9 yX9_many wsX9_many) := goodIn_app (goodIn_of _ (by decide +kernel)) ggX9_facts_X9_many
set_option maxRecDepth 20000 in
theorem ggX9_facts_X9_isFact : GoodIn wsX9_facts wsX9_isFact := goodIn_r _ [11, 12, 7, 13, 14, 15, 4, 16, 1, 2, 3, 5, 6, 17, 18, 19, 20, 21, 22, 23, 24, 25, 26, 27, 28, 29, 30, 31, 32, 33, 34, 35, 36, 37, 38, 39, 40, 41, 42, 43, 44, 45, 46, 47, 48, 49, 50, 51, 52, 53, 54, 55, 56, 57, 58, 59, 60, 61, 62, 63, 64, 65, 66, 67, 68, 69, 70, 71, 72, 73, 74, 75, 76, 77, 78, 79, 80, 81, 82, 83] rfl rfl
set_option maxRecDepth 20000 in
theorem gX9_facts_X9_isFact : GoodIn wsX9_facts (wsV RX9 359 RX9 yX9_isFact wsX9_isFact) := goodIn_app (goodIn_of _ (by decide +kernel)) ggX9_facts_X9_isFact
theorem dX9_facts_0 : decode cX9_facts 0 = .ok (.iconst 0, 1) := by decide +kernel
theorem dX9_facts_1 : decode cX9_facts 1 = .ok (.istore_n 1, 1) := by decide +kernel
theorem dX9_facts_2 : decode cX9_facts 2 = .ok (.iconst 0, 1) := by decide +kernel
theorem dX9_facts_3 : decode cX9_facts 3 = .ok (.istore_n 2, 1) := by decide +kernel
theorem dX9_facts_4 : decode cX9_facts 4 = .ok (.iload_n 2, 1) := by decide +kernel
theorem dX9_facts_5 : decode cX9_facts 5 = .ok (.aload_n 0, 1) := by decide +kernel
theorem dX9_facts_6 : decode cX9_facts 6 = .ok (.invokevirtual 343, 3) := by decide +kernel
theorem dX9_facts_9 : decode cX9_facts 9 = .ok (.if_icmp .ge 23, 3) := by decide +kernel
theorem dX9_facts_12 : decode cX9_facts 12 = .ok (.aload_n 0, 1) := by decide +kernel
theorem dX9_facts_13 : decode cX9_facts 13 = .ok (.iload_n 2, 1) := by decide +kernel
theorem dX9_facts_14 : decode cX9_facts 14 = .ok (.invokevirtual 359, 3) := by decide +kernel
theorem dX9_facts_17 : decode cX9_facts 17 = .ok (.ifCond .eq 9, 3) := by decide +kernel
theorem dX9_facts_20 : decode cX9_facts 20 = .ok (.iload_n 1, 1) := by decide +kernel
theorem dX9_facts_21 : decode cX9_facts 21 = .ok (.iconst 1, 1) := by decide +kernel
theorem dX9_facts_22 : decode cX9_facts 22 = .ok (.iload_n 2, 1) := by decide +kernel
theorem dX9_facts_23 : decode cX9_facts 23 = .ok (.ishl, 1) := by decide +kernel
theorem dX9_facts_24 : decode cX9_facts 24 = .ok (.ior, 1) := by decide +kernel
theorem dX9_facts_25 : decode cX9_facts 25 = .ok (.istore_n 1, 1) := by decide +kernel
theorem dX9_facts_26 : decode cX9_facts 26 = .ok (.iinc 2 1, 3) := by decide +kernel
theorem dX9_facts_29 : decode cX9_facts 29 = .ok (.goto (-25), 3) := by decide +kernel
theorem dX9_facts_32 : decode cX9_facts 32 = .ok (.iload_n 1, 1) := by decide +kernel
theorem dX9_facts_33 : decode cX9_facts 33 = .ok (.ireturn, 1) := by decide +kernel
set_option maxRecDepth 20000 in
theorem ggX9_claims_X9_many : GoodIn wsX9_claims wsX9_many := goodIn_r _ [5, 6, 7, 24, 25, 26, 27, 28, 29, 30, 31, 32, 33, 34, 35, 36, 37, 38, 39, 40, 41, 42, 43, 44, 45, 46, 47, 48, 49, 50, 51, 52, 53, 54, 55, 56, 57, 58, 59, 60, 61, 62, 63, 64, 65, 66, 67, 68, 69, 70, 71, 72, 73, 74, 75, 76, 77, 78, 79, 80, 81, 82, 83, 84, 85, 86, 87] rfl rfl
set_option maxRecDepth 20000 in
theorem gX9_claims_X9_many : GoodIn wsX9_claims (wsV RX9 343 RX9 yX9_many wsX9_many) := goodIn_app (goodIn_of _ (by decide +kernel)) ggX9_claims_X9_many
set_option maxRecDepth 20000 in
theorem ggX9_claims_X9_facts : GoodIn wsX9_claims wsX9_facts := goodIn_r _ [11, 1, 2, 3, 4, 5, 6, 7, 12, 13, 14, 15, 16, 17, 18, 19, 20, 21, 22, 23, 24, 25, 26, 27, 28, 29, 30, 31, 32, 33, 34, 35, 36, 37, 38, 39, 40, 41, 42, 43, 44, 45, 46, 47, 48, 49, 50, 51, 52, 53, 54, 55, 56, 57, 58, 59, 60, 61, 62, 63, 64, 65, 66, 67, 68, 69, 70, 71, 72, 73, 74, 75, 76, 77, 78, 79, 80, 81, 82, 83, 84, 85, 86, 87] rfl rfl
set_option maxRecDepth 20000 in
theorem gX9_claims_X9_facts : GoodIn wsX9_claims (wsV RX9 362 RX9 yX9_facts wsX9_facts) := goodIn_app (goodIn_of _ (by decide +kernel)) ggX9_claims_X9_facts
theorem dX9_claims_0 : decode cX9_claims 0 = .ok (.iconst 1, 1) := by decide +kernel
theorem dX9_claims_1 : decode cX9_claims 1 = .ok (.aload_n 0, 1) := by decide +kernel
theorem dX9_claims_2 : decode cX9_claims 2 = .ok (.invokevirtual 343, 3) := by decide +kernel
theorem dX9_claims_5 : decode cX9_claims 5 = .ok (.ishl, 1) := by decide +kernel
theorem dX9_claims_6 : decode cX9_claims 6 = .ok (.iconst 1, 1) := by decide +kernel
theorem dX9_claims_7 : decode cX9_claims 7 = .ok (.isub, 1) := by decide +kernel
theorem dX9_claims_8 : decode cX9_claims 8 = .ok (.aload_n 0, 1) := by decide +kernel
theorem dX9_claims_9 : decode cX9_claims 9 = .ok (.invokevirtual 362, 3) := by decide +kernel
theorem dX9_claims_12 : decode cX9_claims 12 = .ok (.iconst (-1), 1) := by decide +kernel
theorem dX9_claims_13 : decode cX9_claims 13 = .ok (.ixor, 1) := by decide +kernel
theorem dX9_claims_14 : decode cX9_claims 14 = .ok (.iand, 1) := by decide +kernel
theorem dX9_claims_15 : decode cX9_claims 15 = .ok (.ireturn, 1) := by decide +kernel
set_option maxRecDepth 20000 in
theorem ggX9_layWeights_X9_threads : GoodIn wsX9_layWeights wsX9_threads := goodIn_r _ [11, 12, 6, 67, 68, 69, 70, 71, 72, 73, 74, 75, 76, 77, 78, 79, 80, 81, 82, 83, 84, 85, 86, 87, 88, 89, 90, 91, 92, 93, 94, 95, 96, 97, 98, 99, 100, 101, 102, 103, 104, 105, 106, 107, 108, 109, 110, 111, 112, 113, 114, 115, 116, 117, 118, 119, 120, 121, 122, 123, 124, 125, 126, 127, 128, 129, 130] rfl rfl
set_option maxRecDepth 20000 in
theorem gX9_layWeights_X9_threads : GoodIn wsX9_layWeights (wsV RX9 350 RX9 yX9_threads wsX9_threads) := goodIn_app (goodIn_of _ (by decide +kernel)) ggX9_layWeights_X9_threads
set_option maxRecDepth 20000 in
theorem ggX9_layWeights_X9_bit : GoodIn wsX9_layWeights wsX9_bit := goodIn_r _ [15] rfl rfl
set_option maxRecDepth 20000 in
theorem gX9_layWeights_X9_bit : GoodIn wsX9_layWeights (va_wsS RX9 245 yX9_bit wsX9_bit) := goodIn_app (goodIn_of _ (by decide +kernel)) ggX9_layWeights_X9_bit
set_option maxRecDepth 20000 in
theorem ggX9_layWeights_X9_comes : GoodIn wsX9_layWeights wsX9_comes := goodIn_r _ [19, 20, 6, 21, 22, 23, 24, 25, 26, 10, 27, 28, 29, 30, 31, 3, 2, 1, 32, 33, 34, 35, 36, 37, 38, 39, 40, 7, 8, 9, 11, 12, 41, 42, 43, 44, 45, 46, 47, 48, 49, 50, 51, 52, 53, 54, 55, 56, 57, 58, 59, 60, 61, 62, 63, 67, 68, 69, 70, 71, 72, 73, 74, 75, 76, 77, 78, 79, 80, 81, 82, 83, 84, 85, 86, 87, 88, 89, 90, 91, 92, 93, 94, 95, 96, 97, 98, 99, 100, 101, 102, 103, 104, 105, 106, 107, 108, 109, 110, 111, 112, 113, 114, 115, 116, 117, 118, 119, 120, 121, 122, 123, 124, 125, 126, 127, 128, 129, 130] rfl rfl
set_option maxRecDepth 20000 in
theorem gX9_layWeights_X9_comes : GoodIn wsX9_layWeights (wsV RX9 380 RX9 yX9_comes wsX9_comes) := goodIn_app (goodIn_of _ (by decide +kernel)) ggX9_layWeights_X9_comes
set_option maxRecDepth 20000 in
theorem ggX9_layWeights_X9_held : GoodIn wsX9_layWeights wsX9_held := goodIn_r _ [66] rfl rfl
set_option maxRecDepth 20000 in
theorem gX9_layWeights_X9_held : GoodIn wsX9_layWeights (va_wsS RX9 383 yX9_held wsX9_held) := goodIn_app (goodIn_of _ (by decide +kernel)) ggX9_layWeights_X9_held
theorem dX9_layWeights_0 : decode cX9_layWeights 0 = .ok (.aload_n 0, 1) := by decide +kernel
theorem dX9_layWeights_1 : decode cX9_layWeights 1 = .ok (.iload_n 1, 1) := by decide +kernel
theorem dX9_layWeights_2 : decode cX9_layWeights 2 = .ok (.putfield 321, 3) := by decide +kernel
theorem dX9_layWeights_5 : decode cX9_layWeights 5 = .ok (.iconst 0, 1) := by decide +kernel
theorem dX9_layWeights_6 : decode cX9_layWeights 6 = .ok (.istore_n 2, 1) := by decide +kernel
theorem dX9_layWeights_7 : decode cX9_layWeights 7 = .ok (.iload_n 2, 1) := by decide +kernel
theorem dX9_layWeights_8 : decode cX9_layWeights 8 = .ok (.aload_n 0, 1) := by decide +kernel
theorem dX9_layWeights_9 : decode cX9_layWeights 9 = .ok (.invokevirtual 350, 3) := by decide +kernel
theorem dX9_layWeights_12 : decode cX9_layWeights 12 = .ok (.if_icmp .ge 91, 3) := by decide +kernel
theorem dX9_layWeights_15 : decode cX9_layWeights 15 = .ok (.aload_n 0, 1) := by decide +kernel
theorem dX9_layWeights_16 : decode cX9_layWeights 16 = .ok (.iload_n 2, 1) := by decide +kernel
theorem dX9_layWeights_17 : decode cX9_layWeights 17 = .ok (.putfield 312, 3) := by decide +kernel
theorem dX9_layWeights_20 : decode cX9_layWeights 20 = .ok (.iload_n 1, 1) := by decide +kernel
theorem dX9_layWeights_21 : decode cX9_layWeights 21 = .ok (.iload_n 2, 1) := by decide +kernel
theorem dX9_layWeights_22 : decode cX9_layWeights 22 = .ok (.invokestatic 245, 3) := by decide +kernel
theorem dX9_layWeights_25 : decode cX9_layWeights 25 = .ok (.ifCond .eq 18, 3) := by decide +kernel
theorem dX9_layWeights_28 : decode cX9_layWeights 28 = .ok (.aload_n 0, 1) := by decide +kernel
theorem dX9_layWeights_29 : decode cX9_layWeights 29 = .ok (.getfield 76, 3) := by decide +kernel
theorem dX9_layWeights_32 : decode cX9_layWeights 32 = .ok (.iconst 2, 1) := by decide +kernel
theorem dX9_layWeights_33 : decode cX9_layWeights 33 = .ok (.iload_n 2, 1) := by decide +kernel
theorem dX9_layWeights_34 : decode cX9_layWeights 34 = .ok (.iadd, 1) := by decide +kernel
theorem dX9_layWeights_35 : decode cX9_layWeights 35 = .ok (.iaload, 1) := by decide +kernel
theorem dX9_layWeights_36 : decode cX9_layWeights 36 = .ok (.ifCond .le 7, 3) := by decide +kernel
theorem dX9_layWeights_39 : decode cX9_layWeights 39 = .ok (.iconst 1, 1) := by decide +kernel
theorem dX9_layWeights_40 : decode cX9_layWeights 40 = .ok (.goto 4, 3) := by decide +kernel
theorem dX9_layWeights_43 : decode cX9_layWeights 43 = .ok (.iconst 0, 1) := by decide +kernel
theorem dX9_layWeights_44 : decode cX9_layWeights 44 = .ok (.istore_n 3, 1) := by decide +kernel
theorem dX9_layWeights_45 : decode cX9_layWeights 45 = .ok (.aload_n 0, 1) := by decide +kernel
theorem dX9_layWeights_46 : decode cX9_layWeights 46 = .ok (.getfield 88, 3) := by decide +kernel
theorem dX9_layWeights_49 : decode cX9_layWeights 49 = .ok (.iload_n 2, 1) := by decide +kernel
theorem dX9_layWeights_50 : decode cX9_layWeights 50 = .ok (.iload_n 3, 1) := by decide +kernel
theorem dX9_layWeights_51 : decode cX9_layWeights 51 = .ok (.ifCond .ne 7, 3) := by decide +kernel
theorem dX9_layWeights_54 : decode cX9_layWeights 54 = .ok (.iconst 0, 1) := by decide +kernel
theorem dX9_layWeights_55 : decode cX9_layWeights 55 = .ok (.goto 41, 3) := by decide +kernel
theorem dX9_layWeights_58 : decode cX9_layWeights 58 = .ok (.aload_n 0, 1) := by decide +kernel
theorem dX9_layWeights_59 : decode cX9_layWeights 59 = .ok (.getfield 36, 3) := by decide +kernel
theorem dX9_layWeights_62 : decode cX9_layWeights 62 = .ok (.aload_n 0, 1) := by decide +kernel
theorem dX9_layWeights_63 : decode cX9_layWeights 63 = .ok (.getfield 239, 3) := by decide +kernel
theorem dX9_layWeights_66 : decode cX9_layWeights 66 = .ok (.iaload, 1) := by decide +kernel
theorem dX9_layWeights_67 : decode cX9_layWeights 67 = .ok (.iconst 0, 1) := by decide +kernel
theorem dX9_layWeights_68 : decode cX9_layWeights 68 = .ok (.invokestatic 245, 3) := by decide +kernel
theorem dX9_layWeights_71 : decode cX9_layWeights 71 = .ok (.ifCond .eq 17, 3) := by decide +kernel
theorem dX9_layWeights_74 : decode cX9_layWeights 74 = .ok (.aload_n 0, 1) := by decide +kernel
theorem dX9_layWeights_75 : decode cX9_layWeights 75 = .ok (.invokevirtual 380, 3) := by decide +kernel
theorem dX9_layWeights_78 : decode cX9_layWeights 78 = .ok (.iconst 0, 1) := by decide +kernel
theorem dX9_layWeights_79 : decode cX9_layWeights 79 = .ok (.sipush 999, 3) := by decide +kernel
theorem dX9_layWeights_82 : decode cX9_layWeights 82 = .ok (.invokestatic 383, 3) := by decide +kernel
theorem dX9_layWeights_85 : decode cX9_layWeights 85 = .ok (.goto 11, 3) := by decide +kernel
theorem dX9_layWeights_88 : decode cX9_layWeights 88 = .ok (.aload_n 0, 1) := by decide +kernel
theorem dX9_layWeights_89 : decode cX9_layWeights 89 = .ok (.getfield 76, 3) := by decide +kernel
theorem dX9_layWeights_92 : decode cX9_layWeights 92 = .ok (.iconst 2, 1) := by decide +kernel
theorem dX9_layWeights_93 : decode cX9_layWeights 93 = .ok (.iload_n 2, 1) := by decide +kernel
theorem dX9_layWeights_94 : decode cX9_layWeights 94 = .ok (.iadd, 1) := by decide +kernel
theorem dX9_layWeights_95 : decode cX9_layWeights 95 = .ok (.iaload, 1) := by decide +kernel
theorem dX9_layWeights_96 : decode cX9_layWeights 96 = .ok (.iastore, 1) := by decide +kernel
theorem dX9_layWeights_97 : decode cX9_layWeights 97 = .ok (.iinc 2 1, 3) := by decide +kernel
theorem dX9_layWeights_100 : decode cX9_layWeights 100 = .ok (.goto (-93), 3) := by decide +kernel
theorem dX9_layWeights_103 : decode cX9_layWeights 103 = .ok (.return_, 1) := by decide +kernel
set_option maxRecDepth 20000 in
theorem ggX9_borne_X9_threads : GoodIn wsX9_borne wsX9_threads := goodIn_r _ [6, 7, 8, 22, 23, 24, 25, 26, 27, 28, 29, 30, 31, 32, 33, 34, 35, 36, 37, 38, 39, 40, 41, 42, 43, 44, 45, 46, 47, 48, 49, 50, 51, 52, 53, 54, 55, 56, 57, 58, 59, 60, 61, 62, 63, 64, 65, 66, 67, 68, 69, 70, 71, 72, 73, 74, 75, 76, 77, 78, 79, 80, 81, 82, 83, 84, 85] rfl rfl
set_option maxRecDepth 20000 in
theorem gX9_borne_X9_threads : GoodIn wsX9_borne (wsV RX9 350 RX9 yX9_threads wsX9_threads) := goodIn_app (goodIn_of _ (by decide +kernel)) ggX9_borne_X9_threads
set_option maxRecDepth 20000 in
theorem ggX9_borne_X9_toOf : GoodIn wsX9_borne wsX9_toOf := goodIn_r _ [12, 13, 8, 22, 23, 24, 25, 26, 27, 28, 29, 30, 31, 32, 33, 34, 35, 36, 37, 38, 39, 40, 41, 42, 43, 44, 45, 46, 47, 48, 49, 50, 51, 52, 53, 54, 55, 56, 57, 58, 59, 60, 61, 62, 63, 64, 65, 66, 67, 68, 69, 70, 71, 72, 73, 74, 75, 76, 77, 78, 79, 80, 81, 82, 83, 84, 85] rfl rfl
set_option maxRecDepth 20000 in
theorem gX9_borne_X9_toOf : GoodIn wsX9_borne (wsV RX9 315 RX9 yX9_toOf wsX9_toOf) := goodIn_app (goodIn_of _ (by decide +kernel)) ggX9_borne_X9_toOf
set_option maxRecDepth 20000 in
theorem ggX9_borne_X9_fromOf : GoodIn wsX9_borne wsX9_fromOf := goodIn_r _ [17, 18, 8, 22, 23, 24, 25, 26, 27, 28, 29, 30, 31, 32, 33, 34, 35, 36, 37, 38, 39, 40, 41, 42, 43, 44, 45, 46, 47, 48, 49, 50, 51, 52, 53, 54, 55, 56, 57, 58, 59, 60, 61, 62, 63, 64, 65, 66, 67, 68, 69, 70, 71, 72, 73, 74, 75, 76, 77, 78, 79, 80, 81, 82, 83, 84, 85] rfl rfl
set_option maxRecDepth 20000 in
theorem gX9_borne_X9_fromOf : GoodIn wsX9_borne (wsV RX9 327 RX9 yX9_fromOf wsX9_fromOf) := goodIn_app (goodIn_of _ (by decide +kernel)) ggX9_borne_X9_fromOf
set_option maxRecDepth 20000 in
theorem ggX9_borne_X9_bit : GoodIn wsX9_borne wsX9_bit := goodIn_r _ [21] rfl rfl
set_option maxRecDepth 20000 in
theorem gX9_borne_X9_bit : GoodIn wsX9_borne (va_wsS RX9 245 yX9_bit wsX9_bit) := goodIn_app (goodIn_of _ (by decide +kernel)) ggX9_borne_X9_bit
theorem dX9_borne_0 : decode cX9_borne 0 = .ok (.iconst 0, 1) := by decide +kernel
theorem dX9_borne_1 : decode cX9_borne 1 = .ok (.istore_n 3, 1) := by decide +kernel
theorem dX9_borne_2 : decode cX9_borne 2 = .ok (.iconst 0, 1) := by decide +kernel
theorem dX9_borne_3 : decode cX9_borne 3 = .ok (.istore 4, 2) := by decide +kernel
theorem dX9_borne_5 : decode cX9_borne 5 = .ok (.iload 4, 2) := by decide +kernel
theorem dX9_borne_7 : decode cX9_borne 7 = .ok (.aload_n 0, 1) := by decide +kernel
theorem dX9_borne_8 : decode cX9_borne 8 = .ok (.invokevirtual 350, 3) := by decide +kernel
theorem dX9_borne_11 : decode cX9_borne 11 = .ok (.if_icmp .ge 42, 3) := by decide +kernel
theorem dX9_borne_14 : decode cX9_borne 14 = .ok (.aload_n 0, 1) := by decide +kernel
theorem dX9_borne_15 : decode cX9_borne 15 = .ok (.iload 4, 2) := by decide +kernel
theorem dX9_borne_17 : decode cX9_borne 17 = .ok (.invokevirtual 315, 3) := by decide +kernel
theorem dX9_borne_20 : decode cX9_borne 20 = .ok (.iload_n 1, 1) := by decide +kernel
theorem dX9_borne_21 : decode cX9_borne 21 = .ok (.if_icmp .ne 26, 3) := by decide +kernel
theorem dX9_borne_24 : decode cX9_borne 24 = .ok (.iload_n 2, 1) := by decide +kernel
theorem dX9_borne_25 : decode cX9_borne 25 = .ok (.aload_n 0, 1) := by decide +kernel
theorem dX9_borne_26 : decode cX9_borne 26 = .ok (.iload 4, 2) := by decide +kernel
theorem dX9_borne_28 : decode cX9_borne 28 = .ok (.invokevirtual 327, 3) := by decide +kernel
theorem dX9_borne_31 : decode cX9_borne 31 = .ok (.invokestatic 245, 3) := by decide +kernel
theorem dX9_borne_34 : decode cX9_borne 34 = .ok (.ifCond .eq 13, 3) := by decide +kernel
theorem dX9_borne_37 : decode cX9_borne 37 = .ok (.iload_n 3, 1) := by decide +kernel
theorem dX9_borne_38 : decode cX9_borne 38 = .ok (.aload_n 0, 1) := by decide +kernel
theorem dX9_borne_39 : decode cX9_borne 39 = .ok (.getfield 88, 3) := by decide +kernel
theorem dX9_borne_42 : decode cX9_borne 42 = .ok (.iload 4, 2) := by decide +kernel
theorem dX9_borne_44 : decode cX9_borne 44 = .ok (.iaload, 1) := by decide +kernel
theorem dX9_borne_45 : decode cX9_borne 45 = .ok (.iadd, 1) := by decide +kernel
theorem dX9_borne_46 : decode cX9_borne 46 = .ok (.istore_n 3, 1) := by decide +kernel
theorem dX9_borne_47 : decode cX9_borne 47 = .ok (.iinc 4 1, 3) := by decide +kernel
theorem dX9_borne_50 : decode cX9_borne 50 = .ok (.goto (-45), 3) := by decide +kernel
theorem dX9_borne_53 : decode cX9_borne 53 = .ok (.iload_n 3, 1) := by decide +kernel
theorem dX9_borne_54 : decode cX9_borne 54 = .ok (.ireturn, 1) := by decide +kernel
set_option maxRecDepth 20000 in
theorem ggX9_standBy_X9_layWeights : GoodIn wsX9_standBy wsX9_layWeights := goodIn_r _ [6, 7, 8, 9, 10, 11, 12, 13, 14, 15, 5, 16, 17, 18, 19, 20, 21, 22, 23, 24, 25, 26, 27, 28, 29, 30, 31, 32, 33, 34, 35, 36, 37, 38, 39, 40, 41, 42, 43, 44, 45, 46, 47, 48, 49, 50, 51, 52, 53, 54, 55, 56, 57, 58, 59, 60, 61, 62, 63, 64, 65, 66, 67, 68, 69, 70, 71, 100, 101, 102, 103, 104, 105, 106, 107, 108, 109, 110, 111, 112, 113, 114, 115, 116, 117, 118, 119, 120, 121, 122, 123, 124, 125, 126, 127, 128, 129, 130, 131, 132, 133, 134, 135, 136, 137, 138, 139, 140, 141, 142, 143, 144, 145, 146, 147, 148, 149, 150, 151, 152, 153, 154, 155, 156, 157, 158, 159, 160, 161, 162, 163] rfl rfl
set_option maxRecDepth 20000 in
theorem gX9_standBy_X9_layWeights : GoodIn wsX9_standBy (wsV RX9 386 RX9 yX9_layWeights wsX9_layWeights) := goodIn_app (goodIn_of _ (by decide +kernel)) ggX9_standBy_X9_layWeights
set_option maxRecDepth 20000 in
theorem ggX9_standBy_X9_facts : GoodIn wsX9_standBy wsX9_facts := goodIn_r _ [75, 76, 77, 78, 5, 79, 80, 12, 81, 82, 83, 84, 65, 85, 86, 87, 88, 89, 90, 91, 100, 101, 102, 103, 104, 105, 106, 107, 108, 109, 110, 111, 112, 113, 114, 115, 116, 117, 118, 119, 120, 121, 122, 123, 124, 125, 126, 127, 128, 129, 130, 131, 132, 133, 134, 135, 136, 137, 138, 139, 140, 141, 142, 143, 144, 145, 146, 147, 148, 149, 150, 151, 152, 153, 154, 155, 156, 157, 158, 159, 160, 161, 162, 163] rfl rfl
set_option maxRecDepth 20000 in
theorem gX9_standBy_X9_facts : GoodIn wsX9_standBy (wsV RX9 362 RX9 yX9_facts wsX9_facts) := goodIn_app (goodIn_of _ (by decide +kernel)) ggX9_standBy_X9_facts
set_option maxRecDepth 20000 in
theorem ggX9_standBy_X9_many : GoodIn wsX9_standBy wsX9_many := goodIn_r _ [79, 80, 12, 100, 101, 102, 103, 104, 105, 106, 107, 108, 109, 110, 111, 112, 113, 114, 115, 116, 117, 118, 119, 120, 121, 122, 123, 124, 125, 126, 127, 128, 129, 130, 131, 132, 133, 134, 135, 136, 137, 138, 139, 140, 141, 142, 143, 144, 145, 146, 147, 148, 149, 150, 151, 152, 153, 154, 155, 156, 157, 158, 159, 160, 161, 162, 163] rfl rfl
set_option maxRecDepth 20000 in
theorem gX9_standBy_X9_many : GoodIn wsX9_standBy (wsV RX9 343 RX9 yX9_many wsX9_many) := goodIn_app (goodIn_of _ (by decide +kernel)) ggX9_standBy_X9_many
set_option maxRecDepth 20000 in
theorem ggX9_standBy_X9_bit : GoodIn wsX9_standBy wsX9_bit := goodIn_r _ [20] rfl rfl
set_option maxRecDepth 20000 in
theorem gX9_standBy_X9_bit : GoodIn wsX9_standBy (va_wsS RX9 245 yX9_bit wsX9_bit) := goodIn_app (goodIn_of _ (by decide +kernel)) ggX9_standBy_X9_bit
set_option maxRecDepth 20000 in
theorem ggX9_standBy_X9_isClaim : GoodIn wsX9_standBy wsX9_isClaim := goodIn_r _ [95, 65, 12, 85, 86, 87, 5, 88, 76, 77, 78, 79, 80, 89, 90, 91, 100, 101, 102, 103, 104, 105, 106, 107, 108, 109, 110, 111, 112, 113, 114, 115, 116, 117, 118, 119, 120, 121, 122, 123, 124, 125, 126, 127, 128, 129, 130, 131, 132, 133, 134, 135, 136, 137, 138, 139, 140, 141, 142, 143, 144, 145, 146, 147, 148, 149, 150, 151, 152, 153, 154, 155, 156, 157, 158, 159, 160, 161, 162, 163] rfl rfl
set_option maxRecDepth 20000 in
theorem gX9_standBy_X9_isClaim : GoodIn wsX9_standBy (wsV RX9 390 RX9 yX9_isClaim wsX9_isClaim) := goodIn_app (goodIn_of _ (by decide +kernel)) ggX9_standBy_X9_isClaim
set_option maxRecDepth 20000 in
theorem ggX9_standBy_X9_borne : GoodIn wsX9_standBy wsX9_borne := goodIn_r _ [99, 10, 13, 14, 15, 5, 16, 17, 12, 37, 38, 39, 40, 41, 49, 50, 51, 52, 53, 18, 19, 20, 100, 101, 102, 103, 104, 105, 106, 107, 108, 109, 110, 111, 112, 113, 114, 115, 116, 117, 118, 119, 120, 121, 122, 123, 124, 125, 126, 127, 128, 129, 130, 131, 132, 133, 134, 135, 136, 137, 138, 139, 140, 141, 142, 143, 144, 145, 146, 147, 148, 149, 150, 151, 152, 153, 154, 155, 156, 157, 158, 159, 160, 161, 162, 163] rfl rfl
set_option maxRecDepth 20000 in
theorem gX9_standBy_X9_borne : GoodIn wsX9_standBy (wsV RX9 393 RX9 yX9_borne wsX9_borne) := goodIn_app (goodIn_of _ (by decide +kernel)) ggX9_standBy_X9_borne
set_option maxRecDepth 20000 in
theorem ggX9_standBy_X9_needOf : GoodIn wsX9_standBy wsX9_needOf := goodIn_r _ [61, 62, 63, 64, 65, 12, 100, 101, 102, 103, 104, 105, 106, 107, 108, 109, 110, 111, 112, 113, 114, 115, 116, 117, 118, 119, 120, 121, 122, 123, 124, 125, 126, 127, 128, 129, 130, 131, 132, 133, 134, 135, 136, 137, 138, 139, 140, 141, 142, 143, 144, 145, 146, 147, 148, 149, 150, 151, 152, 153, 154, 155, 156, 157, 158, 159, 160, 161, 162, 163] rfl rfl
set_option maxRecDepth 20000 in
theorem gX9_standBy_X9_needOf : GoodIn wsX9_standBy (wsV RX9 333 RX9 yX9_needOf wsX9_needOf) := goodIn_app (goodIn_of _ (by decide +kernel)) ggX9_standBy_X9_needOf
theorem dX9_standBy_0 : decode cX9_standBy 0 = .ok (.aload_n 0, 1) := by decide +kernel
theorem dX9_standBy_1 : decode cX9_standBy 1 = .ok (.iload_n 2, 1) := by decide +kernel
theorem dX9_standBy_2 : decode cX9_standBy 2 = .ok (.invokevirtual 386, 3) := by decide +kernel
theorem dX9_standBy_5 : decode cX9_standBy 5 = .ok (.aload_n 0, 1) := by decide +kernel
theorem dX9_standBy_6 : decode cX9_standBy 6 = .ok (.invokevirtual 362, 3) := by decide +kernel
theorem dX9_standBy_9 : decode cX9_standBy 9 = .ok (.iload_n 1, 1) := by decide +kernel
theorem dX9_standBy_10 : decode cX9_standBy 10 = .ok (.iconst (-1), 1) := by decide +kernel
theorem dX9_standBy_11 : decode cX9_standBy 11 = .ok (.ixor, 1) := by decide +kernel
theorem dX9_standBy_12 : decode cX9_standBy 12 = .ok (.iand, 1) := by decide +kernel
theorem dX9_standBy_13 : decode cX9_standBy 13 = .ok (.istore_n 3, 1) := by decide +kernel
theorem dX9_standBy_14 : decode cX9_standBy 14 = .ok (.iconst 0, 1) := by decide +kernel
theorem dX9_standBy_15 : decode cX9_standBy 15 = .ok (.istore 4, 2) := by decide +kernel
theorem dX9_standBy_17 : decode cX9_standBy 17 = .ok (.iload 4, 2) := by decide +kernel
theorem dX9_standBy_19 : decode cX9_standBy 19 = .ok (.aload_n 0, 1) := by decide +kernel
theorem dX9_standBy_20 : decode cX9_standBy 20 = .ok (.invokevirtual 343, 3) := by decide +kernel
theorem dX9_standBy_23 : decode cX9_standBy 23 = .ok (.if_icmp .ge 30, 3) := by decide +kernel
theorem dX9_standBy_26 : decode cX9_standBy 26 = .ok (.aload_n 0, 1) := by decide +kernel
theorem dX9_standBy_27 : decode cX9_standBy 27 = .ok (.getfield 91, 3) := by decide +kernel
theorem dX9_standBy_30 : decode cX9_standBy 30 = .ok (.iload 4, 2) := by decide +kernel
theorem dX9_standBy_32 : decode cX9_standBy 32 = .ok (.iload_n 3, 1) := by decide +kernel
theorem dX9_standBy_33 : decode cX9_standBy 33 = .ok (.iload 4, 2) := by decide +kernel
theorem dX9_standBy_35 : decode cX9_standBy 35 = .ok (.invokestatic 245, 3) := by decide +kernel
theorem dX9_standBy_38 : decode cX9_standBy 38 = .ok (.ifCond .eq 7, 3) := by decide +kernel
theorem dX9_standBy_41 : decode cX9_standBy 41 = .ok (.iconst 0, 1) := by decide +kernel
theorem dX9_standBy_42 : decode cX9_standBy 42 = .ok (.goto 4, 3) := by decide +kernel
theorem dX9_standBy_45 : decode cX9_standBy 45 = .ok (.iconst (-1), 1) := by decide +kernel
theorem dX9_standBy_46 : decode cX9_standBy 46 = .ok (.iastore, 1) := by decide +kernel
theorem dX9_standBy_47 : decode cX9_standBy 47 = .ok (.iinc 4 1, 3) := by decide +kernel
theorem dX9_standBy_50 : decode cX9_standBy 50 = .ok (.goto (-33), 3) := by decide +kernel
theorem dX9_standBy_53 : decode cX9_standBy 53 = .ok (.iconst 1, 1) := by decide +kernel
theorem dX9_standBy_54 : decode cX9_standBy 54 = .ok (.istore 4, 2) := by decide +kernel
theorem dX9_standBy_56 : decode cX9_standBy 56 = .ok (.iload 4, 2) := by decide +kernel
theorem dX9_standBy_58 : decode cX9_standBy 58 = .ok (.aload_n 0, 1) := by decide +kernel
theorem dX9_standBy_59 : decode cX9_standBy 59 = .ok (.invokevirtual 343, 3) := by decide +kernel
theorem dX9_standBy_62 : decode cX9_standBy 62 = .ok (.if_icmp .gt 88, 3) := by decide +kernel
theorem dX9_standBy_65 : decode cX9_standBy 65 = .ok (.iload_n 3, 1) := by decide +kernel
theorem dX9_standBy_66 : decode cX9_standBy 66 = .ok (.istore 5, 2) := by decide +kernel
theorem dX9_standBy_68 : decode cX9_standBy 68 = .ok (.iconst 0, 1) := by decide +kernel
theorem dX9_standBy_69 : decode cX9_standBy 69 = .ok (.istore 6, 2) := by decide +kernel
theorem dX9_standBy_71 : decode cX9_standBy 71 = .ok (.iload 6, 2) := by decide +kernel
theorem dX9_standBy_73 : decode cX9_standBy 73 = .ok (.aload_n 0, 1) := by decide +kernel
theorem dX9_standBy_74 : decode cX9_standBy 74 = .ok (.invokevirtual 343, 3) := by decide +kernel
theorem dX9_standBy_77 : decode cX9_standBy 77 = .ok (.if_icmp .ge 64, 3) := by decide +kernel
theorem dX9_standBy_80 : decode cX9_standBy 80 = .ok (.aload_n 0, 1) := by decide +kernel
theorem dX9_standBy_81 : decode cX9_standBy 81 = .ok (.iload 6, 2) := by decide +kernel
theorem dX9_standBy_83 : decode cX9_standBy 83 = .ok (.invokevirtual 390, 3) := by decide +kernel
theorem dX9_standBy_86 : decode cX9_standBy 86 = .ok (.ifCond .eq 49, 3) := by decide +kernel
theorem dX9_standBy_89 : decode cX9_standBy 89 = .ok (.iload_n 3, 1) := by decide +kernel
theorem dX9_standBy_90 : decode cX9_standBy 90 = .ok (.iload 6, 2) := by decide +kernel
theorem dX9_standBy_92 : decode cX9_standBy 92 = .ok (.invokestatic 245, 3) := by decide +kernel
theorem dX9_standBy_95 : decode cX9_standBy 95 = .ok (.ifCond .ne 40, 3) := by decide +kernel
theorem dX9_standBy_98 : decode cX9_standBy 98 = .ok (.aload_n 0, 1) := by decide +kernel
theorem dX9_standBy_99 : decode cX9_standBy 99 = .ok (.iload 6, 2) := by decide +kernel
theorem dX9_standBy_101 : decode cX9_standBy 101 = .ok (.iload_n 3, 1) := by decide +kernel
theorem dX9_standBy_102 : decode cX9_standBy 102 = .ok (.invokevirtual 393, 3) := by decide +kernel
theorem dX9_standBy_105 : decode cX9_standBy 105 = .ok (.aload_n 0, 1) := by decide +kernel
theorem dX9_standBy_106 : decode cX9_standBy 106 = .ok (.iload 6, 2) := by decide +kernel
theorem dX9_standBy_108 : decode cX9_standBy 108 = .ok (.invokevirtual 333, 3) := by decide +kernel
theorem dX9_standBy_111 : decode cX9_standBy 111 = .ok (.if_icmp .ge 6, 3) := by decide +kernel
theorem dX9_standBy_114 : decode cX9_standBy 114 = .ok (.goto 21, 3) := by decide +kernel
theorem dX9_standBy_117 : decode cX9_standBy 117 = .ok (.iload 5, 2) := by decide +kernel
theorem dX9_standBy_119 : decode cX9_standBy 119 = .ok (.iconst 1, 1) := by decide +kernel
theorem dX9_standBy_120 : decode cX9_standBy 120 = .ok (.iload 6, 2) := by decide +kernel
theorem dX9_standBy_122 : decode cX9_standBy 122 = .ok (.ishl, 1) := by decide +kernel
theorem dX9_standBy_123 : decode cX9_standBy 123 = .ok (.ior, 1) := by decide +kernel
theorem dX9_standBy_124 : decode cX9_standBy 124 = .ok (.istore 5, 2) := by decide +kernel
theorem dX9_standBy_126 : decode cX9_standBy 126 = .ok (.aload_n 0, 1) := by decide +kernel
theorem dX9_standBy_127 : decode cX9_standBy 127 = .ok (.getfield 91, 3) := by decide +kernel
theorem dX9_standBy_130 : decode cX9_standBy 130 = .ok (.iload 6, 2) := by decide +kernel
theorem dX9_standBy_132 : decode cX9_standBy 132 = .ok (.iload 4, 2) := by decide +kernel
theorem dX9_standBy_134 : decode cX9_standBy 134 = .ok (.iastore, 1) := by decide +kernel
theorem dX9_standBy_135 : decode cX9_standBy 135 = .ok (.iinc 6 1, 3) := by decide +kernel
theorem dX9_standBy_138 : decode cX9_standBy 138 = .ok (.goto (-67), 3) := by decide +kernel
theorem dX9_standBy_141 : decode cX9_standBy 141 = .ok (.iload 5, 2) := by decide +kernel
theorem dX9_standBy_143 : decode cX9_standBy 143 = .ok (.istore_n 3, 1) := by decide +kernel
theorem dX9_standBy_144 : decode cX9_standBy 144 = .ok (.iinc 4 1, 3) := by decide +kernel
theorem dX9_standBy_147 : decode cX9_standBy 147 = .ok (.goto (-91), 3) := by decide +kernel
theorem dX9_standBy_150 : decode cX9_standBy 150 = .ok (.iload_n 3, 1) := by decide +kernel
theorem dX9_standBy_151 : decode cX9_standBy 151 = .ok (.ireturn, 1) := by decide +kernel
set_option maxRecDepth 20000 in
theorem ggX9_strand_X9_isThread : GoodIn wsX9_strand wsX9_isThread := goodIn_r _ [7, 8, 9, 10, 6, 11, 12, 13, 14, 15, 16, 78, 79, 80, 81, 82, 83, 84, 85, 86, 87, 88, 89, 90, 91, 92, 93, 94, 95, 96, 97, 98, 99, 100, 101, 102, 103, 104, 105, 106, 107, 108, 109, 110, 111, 112, 113, 114, 115, 116, 117, 118, 119, 120, 121, 122, 123, 124, 125, 126, 127, 128, 129, 130, 131, 132, 133, 134, 135, 136, 137, 138, 139, 140, 141] rfl rfl
set_option maxRecDepth 20000 in
theorem gX9_strand_X9_isThread : GoodIn wsX9_strand (wsV RX9 408 RX9 yX9_isThread wsX9_isThread) := goodIn_app (goodIn_of _ (by decide +kernel)) ggX9_strand_X9_isThread
set_option maxRecDepth 20000 in
theorem ggX9_strand_X9_layWeights : GoodIn wsX9_strand wsX9_layWeights := goodIn_r _ [20, 21, 22, 1, 2, 23, 13, 8, 9, 10, 6, 11, 12, 24, 25, 26, 27, 28, 29, 30, 31, 32, 33, 34, 35, 36, 37, 38, 39, 40, 41, 42, 43, 44, 45, 46, 47, 48, 49, 50, 51, 52, 53, 54, 55, 56, 57, 58, 59, 60, 61, 62, 63, 64, 65, 66, 67, 68, 69, 70, 71, 72, 73, 74, 75, 76, 77, 78, 79, 80, 81, 82, 83, 84, 85, 86, 87, 88, 89, 90, 91, 92, 93, 94, 95, 96, 97, 98, 99, 100, 101, 102, 103, 104, 105, 106, 107, 108, 109, 110, 111, 112, 113, 114, 115, 116, 117, 118, 119, 120, 121, 122, 123, 124, 125, 126, 127, 128, 129, 130, 131, 132, 133, 134, 135, 136, 137, 138, 139, 140, 141] rfl rfl
set_option maxRecDepth 20000 in
theorem gX9_strand_X9_layWeights : GoodIn wsX9_strand (wsV RX9 386 RX9 yX9_layWeights wsX9_layWeights) := goodIn_app (goodIn_of _ (by decide +kernel)) ggX9_strand_X9_layWeights
set_option maxRecDepth 20000 in
theorem ggX9_strand_X9_fromOf : GoodIn wsX9_strand wsX9_fromOf := goodIn_r _ [58, 59, 13, 78, 79, 80, 81, 82, 83, 84, 85, 86, 87, 88, 89, 90, 91, 92, 93, 94, 95, 96, 97, 98, 99, 100, 101, 102, 103, 104, 105, 106, 107, 108, 109, 110, 111, 112, 113, 114, 115, 116, 117, 118, 119, 120, 121, 122, 123, 124, 125, 126, 127, 128, 129, 130, 131, 132, 133, 134, 135, 136, 137, 138, 139, 140, 141] rfl rfl
set_option maxRecDepth 20000 in
theorem gX9_strand_X9_fromOf : GoodIn wsX9_strand (wsV RX9 327 RX9 yX9_fromOf wsX9_fromOf) := goodIn_app (goodIn_of _ (by decide +kernel)) ggX9_strand_X9_fromOf
set_option maxRecDepth 20000 in
theorem ggX9_strand_X9_toOf : GoodIn wsX9_strand wsX9_toOf := goodIn_r _ [46, 47, 13, 78, 79, 80, 81, 82, 83, 84, 85, 86, 87, 88, 89, 90, 91, 92, 93, 94, 95, 96, 97, 98, 99, 100, 101, 102, 103, 104, 105, 106, 107, 108, 109, 110, 111, 112, 113, 114, 115, 116, 117, 118, 119, 120, 121, 122, 123, 124, 125, 126, 127, 128, 129, 130, 131, 132, 133, 134, 135, 136, 137, 138, 139, 140, 141] rfl rfl
set_option maxRecDepth 20000 in
theorem gX9_strand_X9_toOf : GoodIn wsX9_strand (wsV RX9 315 RX9 yX9_toOf wsX9_toOf) := goodIn_app (goodIn_of _ (by decide +kernel)) ggX9_strand_X9_toOf
theorem dX9_strand_0 : decode cX9_strand 0 = .ok (.aload_n 0, 1) := by decide +kernel
theorem dX9_strand_1 : decode cX9_strand 1 = .ok (.iload_n 1, 1) := by decide +kernel
theorem dX9_strand_2 : decode cX9_strand 2 = .ok (.invokevirtual 408, 3) := by decide +kernel
theorem dX9_strand_5 : decode cX9_strand 5 = .ok (.ifCond .ne 5, 3) := by decide +kernel
theorem dX9_strand_8 : decode cX9_strand 8 = .ok (.iconst (-1), 1) := by decide +kernel
theorem dX9_strand_9 : decode cX9_strand 9 = .ok (.ireturn, 1) := by decide +kernel
theorem dX9_strand_10 : decode cX9_strand 10 = .ok (.aload_n 0, 1) := by decide +kernel
theorem dX9_strand_11 : decode cX9_strand 11 = .ok (.aload_n 0, 1) := by decide +kernel
theorem dX9_strand_12 : decode cX9_strand 12 = .ok (.getfield 76, 3) := by decide +kernel
theorem dX9_strand_15 : decode cX9_strand 15 = .ok (.iconst 1, 1) := by decide +kernel
theorem dX9_strand_16 : decode cX9_strand 16 = .ok (.iaload, 1) := by decide +kernel
theorem dX9_strand_17 : decode cX9_strand 17 = .ok (.invokevirtual 386, 3) := by decide +kernel
theorem dX9_strand_20 : decode cX9_strand 20 = .ok (.iload_n 2, 1) := by decide +kernel
theorem dX9_strand_21 : decode cX9_strand 21 = .ok (.tableswitch 74 0 4 #[35, 41, 47, 56, 67], 35) := by decide +kernel
theorem dX9_strand_56 : decode cX9_strand 56 = .ok (.aload_n 0, 1) := by decide +kernel
theorem dX9_strand_57 : decode cX9_strand 57 = .ok (.iload_n 1, 1) := by decide +kernel
theorem dX9_strand_58 : decode cX9_strand 58 = .ok (.invokevirtual 327, 3) := by decide +kernel
theorem dX9_strand_61 : decode cX9_strand 61 = .ok (.ireturn, 1) := by decide +kernel
theorem dX9_strand_62 : decode cX9_strand 62 = .ok (.aload_n 0, 1) := by decide +kernel
theorem dX9_strand_63 : decode cX9_strand 63 = .ok (.iload_n 1, 1) := by decide +kernel
theorem dX9_strand_64 : decode cX9_strand 64 = .ok (.invokevirtual 315, 3) := by decide +kernel
theorem dX9_strand_67 : decode cX9_strand 67 = .ok (.ireturn, 1) := by decide +kernel
theorem dX9_strand_68 : decode cX9_strand 68 = .ok (.aload_n 0, 1) := by decide +kernel
theorem dX9_strand_69 : decode cX9_strand 69 = .ok (.getfield 76, 3) := by decide +kernel
theorem dX9_strand_72 : decode cX9_strand 72 = .ok (.iconst 2, 1) := by decide +kernel
theorem dX9_strand_73 : decode cX9_strand 73 = .ok (.iload_n 1, 1) := by decide +kernel
theorem dX9_strand_74 : decode cX9_strand 74 = .ok (.iadd, 1) := by decide +kernel
theorem dX9_strand_75 : decode cX9_strand 75 = .ok (.iaload, 1) := by decide +kernel
theorem dX9_strand_76 : decode cX9_strand 76 = .ok (.ireturn, 1) := by decide +kernel
theorem dX9_strand_77 : decode cX9_strand 77 = .ok (.aload_n 0, 1) := by decide +kernel
theorem dX9_strand_78 : decode cX9_strand 78 = .ok (.getfield 76, 3) := by decide +kernel
theorem dX9_strand_81 : decode cX9_strand 81 = .ok (.iconst 1, 1) := by decide +kernel
theorem dX9_strand_82 : decode cX9_strand 82 = .ok (.iaload, 1) := by decide +kernel
theorem dX9_strand_83 : decode cX9_strand 83 = .ok (.iload_n 1, 1) := by decide +kernel
theorem dX9_strand_84 : decode cX9_strand 84 = .ok (.ishr, 1) := by decide +kernel
theorem dX9_strand_85 : decode cX9_strand 85 = .ok (.iconst 1, 1) := by decide +kernel
theorem dX9_strand_86 : decode cX9_strand 86 = .ok (.iand, 1) := by decide +kernel
theorem dX9_strand_87 : decode cX9_strand 87 = .ok (.ireturn, 1) := by decide +kernel
theorem dX9_strand_88 : decode cX9_strand 88 = .ok (.aload_n 0, 1) := by decide +kernel
theorem dX9_strand_89 : decode cX9_strand 89 = .ok (.getfield 88, 3) := by decide +kernel
theorem dX9_strand_92 : decode cX9_strand 92 = .ok (.iload_n 1, 1) := by decide +kernel
theorem dX9_strand_93 : decode cX9_strand 93 = .ok (.iaload, 1) := by decide +kernel
theorem dX9_strand_94 : decode cX9_strand 94 = .ok (.ireturn, 1) := by decide +kernel
theorem dX9_strand_95 : decode cX9_strand 95 = .ok (.iconst (-1), 1) := by decide +kernel
theorem dX9_strand_96 : decode cX9_strand 96 = .ok (.ireturn, 1) := by decide +kernel
theorem in_X9_asked_X9 : ∀ w ∈ wsX90, w ∈ wsX9_asked := fun _ h => List.mem_cons_of_mem _ (List.mem_append_right _ h)
theorem in_X9_comes_X9 : ∀ w ∈ wsX90, w ∈ wsX9_comes := fun _ h => List.mem_cons_of_mem _ (List.mem_append_right _ h)
theorem in_X9_layWeights_X9 : ∀ w ∈ wsX90, w ∈ wsX9_layWeights := fun _ h => List.mem_cons_of_mem _ (List.mem_append_right _ h)
theorem in_X9_strand_X9 : ∀ w ∈ wsX90, w ∈ wsX9_strand := fun _ h => List.mem_cons_of_mem _ (List.mem_append_right _ h)
theorem in_X9_borne_X9 : ∀ w ∈ wsX90, w ∈ wsX9_borne := fun _ h => List.mem_cons_of_mem _ (List.mem_append_right _ h)
theorem in_X9_isClaim_X9 : ∀ w ∈ wsX90, w ∈ wsX9_isClaim := fun _ h => List.mem_cons_of_mem _ (List.mem_append_right _ h)
theorem in_X9_standBy_X9 : ∀ w ∈ wsX90, w ∈ wsX9_standBy := fun _ h => List.mem_cons_of_mem _ (List.mem_append_right _ h)
set_option maxHeartbeats 4000000 in
set_option maxRecDepth 100000 in
theorem s_X9_asked_0 (l : Launch) (B0 : Nat) (adK adV : Nat → Nat) (D : va_G) (cy : Nat → ClassId) (ad : Nat → Nat) (fr0 : Nat → va_E) (c_text : Nat → Int32) (m_taped : Int32) (m_size : Int32) (m_faultKind : Int32) (m_faultPlace : Int32) (m_at : Int32) (m_end : Int32) (m_token : Int32) (m_number : Int32) (m_name : Int64) (c_points : Nat → Int32) (c_strands : Nat → Int32) (c_units : Nat → Int32) (c_told : Nat → Int32) (c_ruleFrom : Nat → Int32) (c_ruleTo : Nat → Int32) (c_code : Nat → Int32) (c_eWhat : Nat → Int32) (c_eSign : Nat → Int32) (m_bank : Int32) (m_rb : Int32) (m_codes : Int32) (m_within : Int32) (m_piled : Int32) (m_unitsInRule : Int32) (m_askStrand : Int32) (m_askTied : Int32) (m_thoughtClaim : Int32) (m_thoughtNeed : Int32) (m_thoughtAll : Int32) (c_roundOf : Nat → Int32) (m_acts : Int32) (m_undone : Int32) (m_laid : Int32) (m_firstMove : Int32) (m_seens : Int32) (m_time : Int32) (m_waysNow : Int32) (m_fitting : Int32) (f : Nat → va_E) (hT : TYm ad cy fr0 c_text m_taped m_size m_faultKind m_faultPlace m_at m_end m_token m_number m_name c_points c_strands c_units c_told c_ruleFrom c_ruleTo c_code c_eWhat c_eSign m_bank m_rb m_codes m_within m_piled m_unitsInRule m_askStrand m_askTied m_thoughtClaim m_thoughtNeed m_thoughtAll c_roundOf m_acts m_undone m_laid m_firstMove m_seens m_time m_waysNow m_fitting f) (p1 : Int32) (hp1 : 1 ≤ p1.toInt ∧ p1.toInt ≤ 143) (p2 : Int32) (sz : Nat) : TtI l yX9_asked wsX9_asked 2 44 [.ref (ad 148), .int p1, .int p2] B0 adK adV D cy ad f sz (fun (r : Int32) (g : Nat → va_E) => True ∧ (f = g)) := by
  refine TtI.of (cc := cX9_asked) (maxL := 3) (ty := .int) (own := RX9) (by decide) rfl (Nat.le_of_ble_eq_true rfl) rfl ?_
  intro p e s m below meth c A ls hx hb hr hml hts hown hlk hK hE hP hD hS hA hAB hl
  have hl : lv_has ls 3 [(0, .ref (ad 148)), (1, .int p1), (2, .int p2)] := hl
  refine st0 (fun H locs hP hS => ?_) hP hS
  refine lv_iload_n hx hb dX9_asked_0 rfl (lv_at hl 1 rfl) ?_
  by_cases c1 : p1 = 98
  · have kc1 := (c_eq c1).trans tl_98
    refine lv_lookup (off := 84) (tgt := 85) hx hb dX9_asked_1 (by decide) (by rw [kc1]; decide) (by decide) ?_
    refine lv_aload_n hx hb dX9_asked_85 rfl (lv_at hl 0 rfl) ?_
    refine lv_aload_n hx hb dX9_asked_86 rfl (lv_at hl 0 rfl) ?_
    refine lv_aload_n hx hb dX9_asked_87 rfl (lv_at hl 0 rfl) ?_
    obtain ⟨e17, h2, h3, h4, h5, h6, h7, h8, h9, h10, h11, h12, h13, h14, h15, h16⟩ := (show okX9 ad m_taped m_size m_faultKind m_faultPlace m_at m_end m_token m_number m_name m_bank m_rb m_codes m_within m_piled m_unitsInRule m_askStrand m_askTied m_thoughtClaim m_thoughtNeed m_thoughtAll m_acts m_undone m_laid m_firstMove m_seens m_time m_waysNow m_fitting 148 (f 148) from hT.1 148 (by decide))
    refine va_get (D := D) (cl := vwCl) (ci := 9) (v := .int m_askStrand) (C := RX9) (T := TX9) (N := 64) hx hb hts in_X9_asked_X9 hown hK hP 148 (wl_at (by decide) e17) rfl 35 (by decide) (hts (.fieldLink RX9 312 "EightReasonsModel" "askStrand" "I") (List.mem_of_getElem? (i := 2) rfl)) (fun _ h9 => h9) rfl dX9_asked_88 ?_
    refine tVI (As := [.int m_askStrand]) (rest := [.ref (ad 148)]) (i := 148) ⟨hx, hb, hml, hown, hts⟩ hK hE hP hD hS hA hAB (s_X9_fromOf_0 l B0 adK adV D cy ad fr0 c_text m_taped m_size m_faultKind m_faultPlace m_at m_end m_token m_number m_name c_points c_strands c_units c_told c_ruleFrom c_ruleTo c_code c_eWhat c_eSign m_bank m_rb m_codes m_within m_piled m_unitsInRule m_askStrand m_askTied m_thoughtClaim m_thoughtNeed m_thoughtAll c_roundOf m_acts m_undone m_laid m_firstMove m_seens m_time m_waysNow m_fitting f hT m_askStrand (by omega) _) (cwV 1 hts gX9_asked_X9_fromOf rfl rfl rfl (by decide +kernel) ⟨Nat.le_of_ble_eq_true rfl, Nat.le_of_ble_eq_true rfl⟩) (by decide) 9 e17 rfl rfl hl.1 rfl (Nat.le_of_ble_eq_true rfl) dX9_asked_91 ⟨Nat.le_of_ble_eq_true rfl, Nat.le_of_ble_eq_true rfl⟩ (fun r g H locs hw hP hD hS => ?_)
    obtain ⟨hrs, rfl⟩ := hw
    obtain ⟨x18, rfl⟩ : ∃ q, q = r := ⟨_, rfl⟩
    have h19 := hrs
    refine tVI (As := [.int x18]) (rest := []) (i := 148) ⟨hx, hb, hml, hown, hts⟩ hK hE hP hD hS hA hAB (s_X9_leadingFrom_0 l B0 adK adV D cy ad fr0 c_text m_taped m_size m_faultKind m_faultPlace m_at m_end m_token m_number m_name c_points c_strands c_units c_told c_ruleFrom c_ruleTo c_code c_eWhat c_eSign m_bank m_rb m_codes m_within m_piled m_unitsInRule m_askStrand m_askTied m_thoughtClaim m_thoughtNeed m_thoughtAll c_roundOf m_acts m_undone m_laid m_firstMove m_seens m_time m_waysNow m_fitting f hT x18 (by omega) _) (cwV 1 hts gX9_asked_X9_leadingFrom rfl rfl rfl (by decide +kernel) ⟨Nat.le_of_ble_eq_true rfl, Nat.le_of_ble_eq_true rfl⟩) (by decide) 9 e17 rfl rfl hl.1 rfl (Nat.le_of_ble_eq_true rfl) dX9_asked_94 ⟨Nat.le_of_ble_eq_true rfl, Nat.le_of_ble_eq_true rfl⟩ (fun r g H locs hw hP hD hS => ?_)
    obtain ⟨hrs, rfl⟩ := hw
    obtain ⟨x20, rfl⟩ : ∃ q, q = r := ⟨_, rfl⟩
    have h21 := hrs
    refine lv_aload_n hx hb dX9_asked_97 rfl (lv_at hl 0 rfl) ?_
    refine va_get (D := D) (cl := vwCl) (ci := 9) (v := .int m_askTied) (C := RX9) (T := TX9) (N := 64) hx hb hts in_X9_asked_X9 hown hK hP 148 (wl_at (by decide) e17) rfl 36 (by decide) (hts (.fieldLink RX9 321 "EightReasonsModel" "askTied" "I") (List.mem_of_getElem? (i := 3) rfl)) (fun _ h9 => h9) rfl dX9_asked_98 ?_
    refine lv_iand hx hb dX9_asked_101 ?_
    refine lv_topi (fun x22 ex22 => ?_)
    have hx22 := r_andl ex22 (by omega)
    refine tSI (As := [.int x22]) (rest := []) ⟨hx, hb, hml, hown, hts⟩ hK hE hP hD hS hA hAB (s_X9_bitsOf_0 l B0 adK adV D cy ad f x22 (by omega) _) (va_cwS 1 hts gX9_asked_X9_bitsOf rfl rfl rfl (by decide +kernel) ⟨Nat.le_of_ble_eq_true rfl, Nat.le_of_ble_eq_true rfl⟩) rfl hl.1 rfl (Nat.le_of_ble_eq_true rfl) dX9_asked_102 ⟨Nat.le_of_ble_eq_true rfl, Nat.le_of_ble_eq_true rfl⟩ (fun r g H locs hw hP hD hS => ?_)
    obtain ⟨hrs, rfl⟩ := hw
    obtain ⟨x23, rfl⟩ : ∃ q, q = r := ⟨_, rfl⟩
    have h24 := hrs
    exact tI hx hb hr hlk rfl hP hS ⟨trivial, rfl⟩ dX9_asked_105
  by_cases c25 : p1 = 100
  · have kc25 := (c_eq c25).trans tl_100
    refine lv_lookup (off := 118) (tgt := 119) hx hb dX9_asked_1 (by decide) (by rw [kc25]; decide) (by decide) ?_
    refine lv_aload_n hx hb dX9_asked_119 rfl (lv_at hl 0 rfl) ?_
    obtain ⟨e41, h26, h27, h28, h29, h30, h31, h32, h33, h34, h35, h36, h37, h38, h39, h40⟩ := (show okX9 ad m_taped m_size m_faultKind m_faultPlace m_at m_end m_token m_number m_name m_bank m_rb m_codes m_within m_piled m_unitsInRule m_askStrand m_askTied m_thoughtClaim m_thoughtNeed m_thoughtAll m_acts m_undone m_laid m_firstMove m_seens m_time m_waysNow m_fitting 148 (f 148) from hT.1 148 (by decide))
    refine va_get (D := D) (cl := vwCl) (ci := 9) (v := .ref (ad 169)) (C := RX9) (T := TX9) (N := 64) hx hb hts in_X9_asked_X9 hown hK hP 148 (wl_at (by decide) e41) rfl 37 (by decide) (hts (.fieldLink RX9 76 "EightReasonsModel" "all" "[I") (List.mem_of_getElem? (i := 1) rfl)) (fun _ h9 => h9) rfl dX9_asked_120 ?_
    refine lv_bipush (v := 14) hx hb dX9_asked_123 (by decide) ?_
    obtain ⟨g44, e42, h43⟩ := (show okIr cy 16 (0) (4095) 16 1 (f 169) from hT.1 169 (by decide))
    have ttl_14 := tl_14
    refine va_iald hx hb hK hP 169 0 (wl_at (by decide) e42) rfl (vin (by decide)) dX9_asked_125 ?_
    refine lv_topi (fun x45 ex45 => ?_)
    exact tI hx hb hr hlk rfl hP hS ⟨trivial, rfl⟩ dX9_asked_126
  by_cases c46 : p1 = 101
  · have kc46 := (c_eq c46).trans tl_101
    refine lv_lookup (off := 105) (tgt := 106) hx hb dX9_asked_1 (by decide) (by rw [kc46]; decide) (by decide) ?_
    refine lv_aload_n hx hb dX9_asked_106 rfl (lv_at hl 0 rfl) ?_
    refine lv_aload_n hx hb dX9_asked_107 rfl (lv_at hl 0 rfl) ?_
    refine lv_aload_n hx hb dX9_asked_108 rfl (lv_at hl 0 rfl) ?_
    obtain ⟨e62, h47, h48, h49, h50, h51, h52, h53, h54, h55, h56, h57, h58, h59, h60, h61⟩ := (show okX9 ad m_taped m_size m_faultKind m_faultPlace m_at m_end m_token m_number m_name m_bank m_rb m_codes m_within m_piled m_unitsInRule m_askStrand m_askTied m_thoughtClaim m_thoughtNeed m_thoughtAll m_acts m_undone m_laid m_firstMove m_seens m_time m_waysNow m_fitting 148 (f 148) from hT.1 148 (by decide))
    refine va_get (D := D) (cl := vwCl) (ci := 9) (v := .int m_askStrand) (C := RX9) (T := TX9) (N := 64) hx hb hts in_X9_asked_X9 hown hK hP 148 (wl_at (by decide) e62) rfl 35 (by decide) (hts (.fieldLink RX9 312 "EightReasonsModel" "askStrand" "I") (List.mem_of_getElem? (i := 2) rfl)) (fun _ h9 => h9) rfl dX9_asked_109 ?_
    refine tVI (As := [.int m_askStrand]) (rest := [.ref (ad 148)]) (i := 148) ⟨hx, hb, hml, hown, hts⟩ hK hE hP hD hS hA hAB (s_X9_toOf_0 l B0 adK adV D cy ad fr0 c_text m_taped m_size m_faultKind m_faultPlace m_at m_end m_token m_number m_name c_points c_strands c_units c_told c_ruleFrom c_ruleTo c_code c_eWhat c_eSign m_bank m_rb m_codes m_within m_piled m_unitsInRule m_askStrand m_askTied m_thoughtClaim m_thoughtNeed m_thoughtAll c_roundOf m_acts m_undone m_laid m_firstMove m_seens m_time m_waysNow m_fitting f hT m_askStrand (by omega) _) (cwV 1 hts gX9_asked_X9_toOf rfl rfl rfl (by decide +kernel) ⟨Nat.le_of_ble_eq_true rfl, Nat.le_of_ble_eq_true rfl⟩) (by decide) 9 e62 rfl rfl hl.1 rfl (Nat.le_of_ble_eq_true rfl) dX9_asked_112 ⟨Nat.le_of_ble_eq_true rfl, Nat.le_of_ble_eq_true rfl⟩ (fun r g H locs hw hP hD hS => ?_)
    obtain ⟨hrs, rfl⟩ := hw
    obtain ⟨x63, rfl⟩ : ∃ q, q = r := ⟨_, rfl⟩
    have h64 := hrs
    refine tVI (As := [.int x63]) (rest := []) (i := 148) ⟨hx, hb, hml, hown, hts⟩ hK hE hP hD hS hA hAB (s_X9_needOf_0 l B0 adK adV D cy ad fr0 c_text m_taped m_size m_faultKind m_faultPlace m_at m_end m_token m_number m_name c_points c_strands c_units c_told c_ruleFrom c_ruleTo c_code c_eWhat c_eSign m_bank m_rb m_codes m_within m_piled m_unitsInRule m_askStrand m_askTied m_thoughtClaim m_thoughtNeed m_thoughtAll c_roundOf m_acts m_undone m_laid m_firstMove m_seens m_time m_waysNow m_fitting f hT x63 (by omega) _) (cwV 1 hts gX9_asked_X9_needOf rfl rfl rfl (by decide +kernel) ⟨Nat.le_of_ble_eq_true rfl, Nat.le_of_ble_eq_true rfl⟩) (by decide) 9 e62 rfl rfl hl.1 rfl (Nat.le_of_ble_eq_true rfl) dX9_asked_115 ⟨Nat.le_of_ble_eq_true rfl, Nat.le_of_ble_eq_true rfl⟩ (fun r g H locs hw hP hD hS => ?_)
    obtain ⟨hrs, rfl⟩ := hw
    obtain ⟨x65, rfl⟩ : ∃ q, q = r := ⟨_, rfl⟩
    have h66 := hrs
    exact tI hx hb hr hlk rfl hP hS ⟨trivial, rfl⟩ dX9_asked_118
  by_cases c67 : p1 = 103
  · have kc67 := (c_eq c67).trans tl_103
    refine lv_lookup (off := 63) (tgt := 64) hx hb dX9_asked_1 (by decide) (by rw [kc67]; decide) (by decide) ?_
    refine lv_aload_n hx hb dX9_asked_64 rfl (lv_at hl 0 rfl) ?_
    refine lv_aload_n hx hb dX9_asked_65 rfl (lv_at hl 0 rfl) ?_
    refine lv_aload_n hx hb dX9_asked_66 rfl (lv_at hl 0 rfl) ?_
    obtain ⟨e83, h68, h69, h70, h71, h72, h73, h74, h75, h76, h77, h78, h79, h80, h81, h82⟩ := (show okX9 ad m_taped m_size m_faultKind m_faultPlace m_at m_end m_token m_number m_name m_bank m_rb m_codes m_within m_piled m_unitsInRule m_askStrand m_askTied m_thoughtClaim m_thoughtNeed m_thoughtAll m_acts m_undone m_laid m_firstMove m_seens m_time m_waysNow m_fitting 148 (f 148) from hT.1 148 (by decide))
    refine va_get (D := D) (cl := vwCl) (ci := 9) (v := .int m_askStrand) (C := RX9) (T := TX9) (N := 64) hx hb hts in_X9_asked_X9 hown hK hP 148 (wl_at (by decide) e83) rfl 35 (by decide) (hts (.fieldLink RX9 312 "EightReasonsModel" "askStrand" "I") (List.mem_of_getElem? (i := 2) rfl)) (fun _ h9 => h9) rfl dX9_asked_67 ?_
    refine tVI (As := [.int m_askStrand]) (rest := [.ref (ad 148)]) (i := 148) ⟨hx, hb, hml, hown, hts⟩ hK hE hP hD hS hA hAB (s_X9_toOf_0 l B0 adK adV D cy ad fr0 c_text m_taped m_size m_faultKind m_faultPlace m_at m_end m_token m_number m_name c_points c_strands c_units c_told c_ruleFrom c_ruleTo c_code c_eWhat c_eSign m_bank m_rb m_codes m_within m_piled m_unitsInRule m_askStrand m_askTied m_thoughtClaim m_thoughtNeed m_thoughtAll c_roundOf m_acts m_undone m_laid m_firstMove m_seens m_time m_waysNow m_fitting f hT m_askStrand (by omega) _) (cwV 1 hts gX9_asked_X9_toOf rfl rfl rfl (by decide +kernel) ⟨Nat.le_of_ble_eq_true rfl, Nat.le_of_ble_eq_true rfl⟩) (by decide) 9 e83 rfl rfl hl.1 rfl (Nat.le_of_ble_eq_true rfl) dX9_asked_70 ⟨Nat.le_of_ble_eq_true rfl, Nat.le_of_ble_eq_true rfl⟩ (fun r g H locs hw hP hD hS => ?_)
    obtain ⟨hrs, rfl⟩ := hw
    obtain ⟨x84, rfl⟩ : ∃ q, q = r := ⟨_, rfl⟩
    have h85 := hrs
    refine tVI (As := [.int x84]) (rest := []) (i := 148) ⟨hx, hb, hml, hown, hts⟩ hK hE hP hD hS hA hAB (s_X9_leadingTo_0 l B0 adK adV D cy ad fr0 c_text m_taped m_size m_faultKind m_faultPlace m_at m_end m_token m_number m_name c_points c_strands c_units c_told c_ruleFrom c_ruleTo c_code c_eWhat c_eSign m_bank m_rb m_codes m_within m_piled m_unitsInRule m_askStrand m_askTied m_thoughtClaim m_thoughtNeed m_thoughtAll c_roundOf m_acts m_undone m_laid m_firstMove m_seens m_time m_waysNow m_fitting f hT x84 (by omega) _) (cwV 1 hts gX9_asked_X9_leadingTo rfl rfl rfl (by decide +kernel) ⟨Nat.le_of_ble_eq_true rfl, Nat.le_of_ble_eq_true rfl⟩) (by decide) 9 e83 rfl rfl hl.1 rfl (Nat.le_of_ble_eq_true rfl) dX9_asked_73 ⟨Nat.le_of_ble_eq_true rfl, Nat.le_of_ble_eq_true rfl⟩ (fun r g H locs hw hP hD hS => ?_)
    obtain ⟨hrs, rfl⟩ := hw
    obtain ⟨x86, rfl⟩ : ∃ q, q = r := ⟨_, rfl⟩
    have h87 := hrs
    refine lv_aload_n hx hb dX9_asked_76 rfl (lv_at hl 0 rfl) ?_
    refine va_get (D := D) (cl := vwCl) (ci := 9) (v := .int m_askTied) (C := RX9) (T := TX9) (N := 64) hx hb hts in_X9_asked_X9 hown hK hP 148 (wl_at (by decide) e83) rfl 36 (by decide) (hts (.fieldLink RX9 321 "EightReasonsModel" "askTied" "I") (List.mem_of_getElem? (i := 3) rfl)) (fun _ h9 => h9) rfl dX9_asked_77 ?_
    refine lv_iand hx hb dX9_asked_80 ?_
    refine lv_topi (fun x88 ex88 => ?_)
    have hx88 := r_andl ex88 (by omega)
    refine tSI (As := [.int x88]) (rest := []) ⟨hx, hb, hml, hown, hts⟩ hK hE hP hD hS hA hAB (s_X9_bitsOf_0 l B0 adK adV D cy ad f x88 (by omega) _) (va_cwS 1 hts gX9_asked_X9_bitsOf rfl rfl rfl (by decide +kernel) ⟨Nat.le_of_ble_eq_true rfl, Nat.le_of_ble_eq_true rfl⟩) rfl hl.1 rfl (Nat.le_of_ble_eq_true rfl) dX9_asked_81 ⟨Nat.le_of_ble_eq_true rfl, Nat.le_of_ble_eq_true rfl⟩ (fun r g H locs hw hP hD hS => ?_)
    obtain ⟨hrs, rfl⟩ := hw
    obtain ⟨x89, rfl⟩ : ∃ q, q = r := ⟨_, rfl⟩
    have h90 := hrs
    exact tI hx hb hr hlk rfl hP hS ⟨trivial, rfl⟩ dX9_asked_84
  by_cases c91 : p1 = 115
  · have kc91 := (c_eq c91).trans tl_115
    refine lv_lookup (off := 51) (tgt := 52) hx hb dX9_asked_1 (by decide) (by rw [kc91]; decide) (by decide) ?_
    refine lv_aload_n hx hb dX9_asked_52 rfl (lv_at hl 0 rfl) ?_
    obtain ⟨e107, h92, h93, h94, h95, h96, h97, h98, h99, h100, h101, h102, h103, h104, h105, h106⟩ := (show okX9 ad m_taped m_size m_faultKind m_faultPlace m_at m_end m_token m_number m_name m_bank m_rb m_codes m_within m_piled m_unitsInRule m_askStrand m_askTied m_thoughtClaim m_thoughtNeed m_thoughtAll m_acts m_undone m_laid m_firstMove m_seens m_time m_waysNow m_fitting 148 (f 148) from hT.1 148 (by decide))
    refine va_get (D := D) (cl := vwCl) (ci := 9) (v := .ref (ad 169)) (C := RX9) (T := TX9) (N := 64) hx hb hts in_X9_asked_X9 hown hK hP 148 (wl_at (by decide) e107) rfl 37 (by decide) (hts (.fieldLink RX9 76 "EightReasonsModel" "all" "[I") (List.mem_of_getElem? (i := 1) rfl)) (fun _ h9 => h9) rfl dX9_asked_53 ?_
    refine lv_iconst (v := 2) hx hb dX9_asked_56 (by decide) ?_
    refine lv_aload_n hx hb dX9_asked_57 rfl (lv_at hl 0 rfl) ?_
    refine va_get (D := D) (cl := vwCl) (ci := 9) (v := .int m_askStrand) (C := RX9) (T := TX9) (N := 64) hx hb hts in_X9_asked_X9 hown hK hP 148 (wl_at (by decide) e107) rfl 35 (by decide) (hts (.fieldLink RX9 312 "EightReasonsModel" "askStrand" "I") (List.mem_of_getElem? (i := 2) rfl)) (fun _ h9 => h9) rfl dX9_asked_58 ?_
    have ttl_2 := tl_2
    refine lv_iadd hx hb dX9_asked_61 ?_
    refine lv_topi (fun x108 ex108 => ?_)
    have hx108 := r_add ex108 (by omega) (by omega)
    obtain ⟨g111, e109, h110⟩ := (show okIr cy 16 (0) (4095) 16 1 (f 169) from hT.1 169 (by decide))
    have hc112 := clampZ (x := x108) (by omega)
    refine va_iald hx hb hK hP 169 0 (wl_at (by decide) e109) rfl (vp_in_iff.mpr ⟨by omega, by omega⟩) dX9_asked_62 ?_
    refine lv_topi (fun x113 ex113 => ?_)
    have hx113 := r_elc (h110 _) ex113
    exact tI hx hb hr hlk rfl hP hS ⟨trivial, rfl⟩ dX9_asked_63
  refine lv_lookup (off := 126) (tgt := 127) hx hb dX9_asked_1 (by decide) ((lv_osw c1 tl_98).trans <| (lv_osw c25 tl_100).trans <| (lv_osw c46 tl_101).trans <| (lv_osw c67 tl_103).trans <| (lv_osw c91 tl_115).trans <| lv_osw0) (by decide) ?_
  refine lv_iload_n hx hb dX9_asked_127 rfl (lv_at hl 2 rfl) ?_
  exact tI hx hb hr hlk rfl hP hS ⟨trivial, rfl⟩ dX9_asked_128
set_option maxHeartbeats 4000000 in
set_option maxRecDepth 100000 in
theorem s_X9_two_0 (l : Launch) (B0 : Nat) (adK adV : Nat → Nat) (D : va_G) (cy : Nat → ClassId) (ad : Nat → Nat) (f : Nat → va_E) (p0 : Int32) (p1 : Int32) (p2 : Int32) (sz : Nat) : TtI l yX9_two wsX9_two 0 0 [.int p0, .int p1, .int p2] B0 adK adV D cy ad f sz (fun (r : Int32) (g : Nat → va_E) => True ∧ (f = g)) := by
  refine TtI.of (cc := cX9_two) (maxL := 3) (ty := .int) (own := RX9) (by decide) rfl (Nat.le_of_ble_eq_true rfl) rfl ?_
  intro p e s m below meth c A ls hx hb hr hml hts hown hlk hK hE hP hD hS hA hAB hl
  have hl : lv_has ls 3 [(0, .int p0), (1, .int p1), (2, .int p2)] := hl
  refine st0 (fun H locs hP hS => ?_) hP hS
  have j211 : ∀ (H : Heap) (locs : List Loc) (ls : Array Slot), (va_P D vwCl (wl ad f) H) → (va_D A (wl ad f)) → (va_S A s.heap H locs) → (lv_has ls 3 [(0, .int p0), (1, .int p1), (2, .int p2)]) → W p l e (rmO 0 0 0 0) s m ([.int p0, .int p1, .int p2] : List Value).toArray below meth c H locs 0 0 (MQ below (va_Qi (fun (r : Int32) (g : Nat → va_E) => True ∧ (f = g)) (fun g t => PstT D ad g t) A) ([.int p0, .int p1, .int p2] : List Value).toArray s 0 0 A) (F0 m 211 ls []) := by
    intro H locs ls hP hD hS hl
    refine lv_iconst (v := 1) hx hb dX9_two_211 (by decide) ?_
    refine lv_goto (tgt := 216) hx hb dX9_two_212 (by decide) ?_
    have ttl_1 := tl_1
    exact tI hx hb hr hlk rfl hP hS ⟨trivial, rfl⟩ dX9_two_216
  refine lv_iload_n hx hb dX9_two_0 rfl (lv_at hl 0 rfl) ?_
  rcases sw_37_62 p0 with c1 | c1 | c1 | c1 | c1 | c1 | c1 | c1 | c1 | c1 | c1 | c1 | c1 | c1 | c1 | c1 | c1 | c1 | c1 | c1 | c1 | c1 | c1 | c1 | c1 | c1 | c1
  · refine lv_tableOut (tgt := 203) hx hb dX9_two_1 c1 (by decide) ?_
    refine lv_iload_n hx hb dX9_two_203 rfl (lv_at hl 1 rfl) ?_
    have ttl_0 := tl_0
    refine lv_if_ne (tgt := 211) hx hb dX9_two_204 (by decide) (fun c2 => ?_) (fun c2 => ?_)
    · have kc2 := c_ne c2
      exact j211 H locs ls hP hD hS (lv_sub hl [0, 1, 2] rfl)
    · have kc2 := c_eq c2
      refine lv_iload_n hx hb dX9_two_207 rfl (lv_at hl 2 rfl) ?_
      refine lv_if_eq (tgt := 215) hx hb dX9_two_208 (by decide) (fun c3 => ?_) (fun c3 => ?_)
      · have kc3 := c_eq c3
        refine lv_iconst (v := 0) hx hb dX9_two_215 (by decide) ?_
        exact tI hx hb hr hlk rfl hP hS ⟨trivial, rfl⟩ dX9_two_216
      · have kc3 := c_ne c3
        exact j211 H locs ls hP hD hS (lv_sub hl [0, 1, 2] rfl)
  · have kc1 := (c_eq c1).trans tl_37
    refine lv_tableIn (off := 143) (tgt := 144) hx hb dX9_two_1 (by rw [kc1]; decide) (by rw [kc1]; decide) (by rw [kc1]; decide) (by decide) ?_
    refine lv_iload_n hx hb dX9_two_144 rfl (lv_at hl 2 rfl) ?_
    have ttl_0 := tl_0
    refine lv_if_ne (tgt := 152) hx hb dX9_two_145 (by decide) (fun c4 => ?_) (fun c4 => ?_)
    · have kc4 := c_ne c4
      refine lv_iload_n hx hb dX9_two_152 rfl (lv_at hl 1 rfl) ?_
      refine lv_iload_n hx hb dX9_two_153 rfl (lv_at hl 2 rfl) ?_
      refine lv_irem hx hb dX9_two_154 (ne0 (by omega)) ?_
      refine lv_topi (fun x5 ex5 => ?_)
      exact tI hx hb hr hlk rfl hP hS ⟨trivial, rfl⟩ dX9_two_155
    · have kc4 := c_eq c4
      refine lv_iconst (v := 0) hx hb dX9_two_148 (by decide) ?_
      refine lv_goto (tgt := 155) hx hb dX9_two_149 (by decide) ?_
      exact tI hx hb hr hlk rfl hP hS ⟨trivial, rfl⟩ dX9_two_155
  · have kc1 := (c_eq c1).trans tl_38
    refine lv_tableIn (off := 188) (tgt := 189) hx hb dX9_two_1 (by rw [kc1]; decide) (by rw [kc1]; decide) (by rw [kc1]; decide) (by decide) ?_
    refine lv_iload_n hx hb dX9_two_189 rfl (lv_at hl 1 rfl) ?_
    have ttl_0 := tl_0
    refine lv_if_eq (tgt := 201) hx hb dX9_two_190 (by decide) (fun c6 => ?_) (fun c6 => ?_)
    · have kc6 := c_eq c6
      refine lv_iconst (v := 0) hx hb dX9_two_201 (by decide) ?_
      exact tI hx hb hr hlk rfl hP hS ⟨trivial, rfl⟩ dX9_two_202
    · have kc6 := c_ne c6
      refine lv_iload_n hx hb dX9_two_193 rfl (lv_at hl 2 rfl) ?_
      refine lv_if_eq (tgt := 201) hx hb dX9_two_194 (by decide) (fun c7 => ?_) (fun c7 => ?_)
      · have kc7 := c_eq c7
        refine lv_iconst (v := 0) hx hb dX9_two_201 (by decide) ?_
        exact tI hx hb hr hlk rfl hP hS ⟨trivial, rfl⟩ dX9_two_202
      · have kc7 := c_ne c7
        refine lv_iconst (v := 1) hx hb dX9_two_197 (by decide) ?_
        refine lv_goto (tgt := 202) hx hb dX9_two_198 (by decide) ?_
        have ttl_1 := tl_1
        exact tI hx hb hr hlk rfl hP hS ⟨trivial, rfl⟩ dX9_two_202
  · have kc1 := (c_eq c1).trans tl_39
    refine lv_tableIn (off := 202) (tgt := 203) hx hb dX9_two_1 (by rw [kc1]; decide) (by rw [kc1]; decide) (by rw [kc1]; decide) (by decide) ?_
    refine lv_iload_n hx hb dX9_two_203 rfl (lv_at hl 1 rfl) ?_
    have ttl_0 := tl_0
    refine lv_if_ne (tgt := 211) hx hb dX9_two_204 (by decide) (fun c8 => ?_) (fun c8 => ?_)
    · have kc8 := c_ne c8
      exact j211 H locs ls hP hD hS (lv_sub hl [0, 1, 2] rfl)
    · have kc8 := c_eq c8
      refine lv_iload_n hx hb dX9_two_207 rfl (lv_at hl 2 rfl) ?_
      refine lv_if_eq (tgt := 215) hx hb dX9_two_208 (by decide) (fun c9 => ?_) (fun c9 => ?_)
      · have kc9 := c_eq c9
        refine lv_iconst (v := 0) hx hb dX9_two_215 (by decide) ?_
        exact tI hx hb hr hlk rfl hP hS ⟨trivial, rfl⟩ dX9_two_216
      · have kc9 := c_ne c9
        exact j211 H locs ls hP hD hS (lv_sub hl [0, 1, 2] rfl)
  · have kc1 := (c_eq c1).trans tl_40
    refine lv_tableIn (off := 202) (tgt := 203) hx hb dX9_two_1 (by rw [kc1]; decide) (by rw [kc1]; decide) (by rw [kc1]; decide) (by decide) ?_
    refine lv_iload_n hx hb dX9_two_203 rfl (lv_at hl 1 rfl) ?_
    have ttl_0 := tl_0
    refine lv_if_ne (tgt := 211) hx hb dX9_two_204 (by decide) (fun c10 => ?_) (fun c10 => ?_)
    · have kc10 := c_ne c10
      exact j211 H locs ls hP hD hS (lv_sub hl [0, 1, 2] rfl)
    · have kc10 := c_eq c10
      refine lv_iload_n hx hb dX9_two_207 rfl (lv_at hl 2 rfl) ?_
      refine lv_if_eq (tgt := 215) hx hb dX9_two_208 (by decide) (fun c11 => ?_) (fun c11 => ?_)
      · have kc11 := c_eq c11
        refine lv_iconst (v := 0) hx hb dX9_two_215 (by decide) ?_
        exact tI hx hb hr hlk rfl hP hS ⟨trivial, rfl⟩ dX9_two_216
      · have kc11 := c_ne c11
        exact j211 H locs ls hP hD hS (lv_sub hl [0, 1, 2] rfl)
  · have kc1 := (c_eq c1).trans tl_41
    refine lv_tableIn (off := 202) (tgt := 203) hx hb dX9_two_1 (by rw [kc1]; decide) (by rw [kc1]; decide) (by rw [kc1]; decide) (by decide) ?_
    refine lv_iload_n hx hb dX9_two_203 rfl (lv_at hl 1 rfl) ?_
    have ttl_0 := tl_0
    refine lv_if_ne (tgt := 211) hx hb dX9_two_204 (by decide) (fun c12 => ?_) (fun c12 => ?_)
    · have kc12 := c_ne c12
      exact j211 H locs ls hP hD hS (lv_sub hl [0, 1, 2] rfl)
    · have kc12 := c_eq c12
      refine lv_iload_n hx hb dX9_two_207 rfl (lv_at hl 2 rfl) ?_
      refine lv_if_eq (tgt := 215) hx hb dX9_two_208 (by decide) (fun c13 => ?_) (fun c13 => ?_)
      · have kc13 := c_eq c13
        refine lv_iconst (v := 0) hx hb dX9_two_215 (by decide) ?_
        exact tI hx hb hr hlk rfl hP hS ⟨trivial, rfl⟩ dX9_two_216
      · have kc13 := c_ne c13
        exact j211 H locs ls hP hD hS (lv_sub hl [0, 1, 2] rfl)
  · have kc1 := (c_eq c1).trans tl_42
    refine lv_tableIn (off := 127) (tgt := 128) hx hb dX9_two_1 (by rw [kc1]; decide) (by rw [kc1]; decide) (by rw [kc1]; decide) (by decide) ?_
    refine lv_iload_n hx hb dX9_two_128 rfl (lv_at hl 1 rfl) ?_
    refine lv_iload_n hx hb dX9_two_129 rfl (lv_at hl 2 rfl) ?_
    refine lv_imul hx hb dX9_two_130 ?_
    refine lv_topi (fun x14 ex14 => ?_)
    exact tI hx hb hr hlk rfl hP hS ⟨trivial, rfl⟩ dX9_two_131
  · have kc1 := (c_eq c1).trans tl_43
    refine lv_tableIn (off := 119) (tgt := 120) hx hb dX9_two_1 (by rw [kc1]; decide) (by rw [kc1]; decide) (by rw [kc1]; decide) (by decide) ?_
    refine lv_iload_n hx hb dX9_two_120 rfl (lv_at hl 1 rfl) ?_
    refine lv_iload_n hx hb dX9_two_121 rfl (lv_at hl 2 rfl) ?_
    refine lv_iadd hx hb dX9_two_122 ?_
    refine lv_topi (fun x15 ex15 => ?_)
    exact tI hx hb hr hlk rfl hP hS ⟨trivial, rfl⟩ dX9_two_123
  · have kc1 := (c_eq c1).trans tl_44
    refine lv_tableIn (off := 202) (tgt := 203) hx hb dX9_two_1 (by rw [kc1]; decide) (by rw [kc1]; decide) (by rw [kc1]; decide) (by decide) ?_
    refine lv_iload_n hx hb dX9_two_203 rfl (lv_at hl 1 rfl) ?_
    have ttl_0 := tl_0
    refine lv_if_ne (tgt := 211) hx hb dX9_two_204 (by decide) (fun c16 => ?_) (fun c16 => ?_)
    · have kc16 := c_ne c16
      exact j211 H locs ls hP hD hS (lv_sub hl [0, 1, 2] rfl)
    · have kc16 := c_eq c16
      refine lv_iload_n hx hb dX9_two_207 rfl (lv_at hl 2 rfl) ?_
      refine lv_if_eq (tgt := 215) hx hb dX9_two_208 (by decide) (fun c17 => ?_) (fun c17 => ?_)
      · have kc17 := c_eq c17
        refine lv_iconst (v := 0) hx hb dX9_two_215 (by decide) ?_
        exact tI hx hb hr hlk rfl hP hS ⟨trivial, rfl⟩ dX9_two_216
      · have kc17 := c_ne c17
        exact j211 H locs ls hP hD hS (lv_sub hl [0, 1, 2] rfl)
  · have kc1 := (c_eq c1).trans tl_45
    refine lv_tableIn (off := 123) (tgt := 124) hx hb dX9_two_1 (by rw [kc1]; decide) (by rw [kc1]; decide) (by rw [kc1]; decide) (by decide) ?_
    refine lv_iload_n hx hb dX9_two_124 rfl (lv_at hl 1 rfl) ?_
    refine lv_iload_n hx hb dX9_two_125 rfl (lv_at hl 2 rfl) ?_
    refine lv_isub hx hb dX9_two_126 ?_
    refine lv_topi (fun x18 ex18 => ?_)
    exact tI hx hb hr hlk rfl hP hS ⟨trivial, rfl⟩ dX9_two_127
  · have kc1 := (c_eq c1).trans tl_46
    refine lv_tableIn (off := 202) (tgt := 203) hx hb dX9_two_1 (by rw [kc1]; decide) (by rw [kc1]; decide) (by rw [kc1]; decide) (by decide) ?_
    refine lv_iload_n hx hb dX9_two_203 rfl (lv_at hl 1 rfl) ?_
    have ttl_0 := tl_0
    refine lv_if_ne (tgt := 211) hx hb dX9_two_204 (by decide) (fun c19 => ?_) (fun c19 => ?_)
    · have kc19 := c_ne c19
      exact j211 H locs ls hP hD hS (lv_sub hl [0, 1, 2] rfl)
    · have kc19 := c_eq c19
      refine lv_iload_n hx hb dX9_two_207 rfl (lv_at hl 2 rfl) ?_
      refine lv_if_eq (tgt := 215) hx hb dX9_two_208 (by decide) (fun c20 => ?_) (fun c20 => ?_)
      · have kc20 := c_eq c20
        refine lv_iconst (v := 0) hx hb dX9_two_215 (by decide) ?_
        exact tI hx hb hr hlk rfl hP hS ⟨trivial, rfl⟩ dX9_two_216
      · have kc20 := c_ne c20
        exact j211 H locs ls hP hD hS (lv_sub hl [0, 1, 2] rfl)
  · have kc1 := (c_eq c1).trans tl_47
    refine lv_tableIn (off := 131) (tgt := 132) hx hb dX9_two_1 (by rw [kc1]; decide) (by rw [kc1]; decide) (by rw [kc1]; decide) (by decide) ?_
    refine lv_iload_n hx hb dX9_two_132 rfl (lv_at hl 2 rfl) ?_
    have ttl_0 := tl_0
    refine lv_if_ne (tgt := 140) hx hb dX9_two_133 (by decide) (fun c21 => ?_) (fun c21 => ?_)
    · have kc21 := c_ne c21
      refine lv_iload_n hx hb dX9_two_140 rfl (lv_at hl 1 rfl) ?_
      refine lv_iload_n hx hb dX9_two_141 rfl (lv_at hl 2 rfl) ?_
      refine lv_idiv hx hb dX9_two_142 (ne0 (by omega)) ?_
      refine lv_topi (fun x22 ex22 => ?_)
      exact tI hx hb hr hlk rfl hP hS ⟨trivial, rfl⟩ dX9_two_143
    · have kc21 := c_eq c21
      refine lv_iconst (v := 0) hx hb dX9_two_136 (by decide) ?_
      refine lv_goto (tgt := 143) hx hb dX9_two_137 (by decide) ?_
      exact tI hx hb hr hlk rfl hP hS ⟨trivial, rfl⟩ dX9_two_143
  · have kc1 := (c_eq c1).trans tl_48
    refine lv_tableIn (off := 202) (tgt := 203) hx hb dX9_two_1 (by rw [kc1]; decide) (by rw [kc1]; decide) (by rw [kc1]; decide) (by decide) ?_
    refine lv_iload_n hx hb dX9_two_203 rfl (lv_at hl 1 rfl) ?_
    have ttl_0 := tl_0
    refine lv_if_ne (tgt := 211) hx hb dX9_two_204 (by decide) (fun c23 => ?_) (fun c23 => ?_)
    · have kc23 := c_ne c23
      exact j211 H locs ls hP hD hS (lv_sub hl [0, 1, 2] rfl)
    · have kc23 := c_eq c23
      refine lv_iload_n hx hb dX9_two_207 rfl (lv_at hl 2 rfl) ?_
      refine lv_if_eq (tgt := 215) hx hb dX9_two_208 (by decide) (fun c24 => ?_) (fun c24 => ?_)
      · have kc24 := c_eq c24
        refine lv_iconst (v := 0) hx hb dX9_two_215 (by decide) ?_
        exact tI hx hb hr hlk rfl hP hS ⟨trivial, rfl⟩ dX9_two_216
      · have kc24 := c_ne c24
        exact j211 H locs ls hP hD hS (lv_sub hl [0, 1, 2] rfl)
  · have kc1 := (c_eq c1).trans tl_49
    refine lv_tableIn (off := 202) (tgt := 203) hx hb dX9_two_1 (by rw [kc1]; decide) (by rw [kc1]; decide) (by rw [kc1]; decide) (by decide) ?_
    refine lv_iload_n hx hb dX9_two_203 rfl (lv_at hl 1 rfl) ?_
    have ttl_0 := tl_0
    refine lv_if_ne (tgt := 211) hx hb dX9_two_204 (by decide) (fun c25 => ?_) (fun c25 => ?_)
    · have kc25 := c_ne c25
      exact j211 H locs ls hP hD hS (lv_sub hl [0, 1, 2] rfl)
    · have kc25 := c_eq c25
      refine lv_iload_n hx hb dX9_two_207 rfl (lv_at hl 2 rfl) ?_
      refine lv_if_eq (tgt := 215) hx hb dX9_two_208 (by decide) (fun c26 => ?_) (fun c26 => ?_)
      · have kc26 := c_eq c26
        refine lv_iconst (v := 0) hx hb dX9_two_215 (by decide) ?_
        exact tI hx hb hr hlk rfl hP hS ⟨trivial, rfl⟩ dX9_two_216
      · have kc26 := c_ne c26
        exact j211 H locs ls hP hD hS (lv_sub hl [0, 1, 2] rfl)
  · have kc1 := (c_eq c1).trans tl_50
    refine lv_tableIn (off := 202) (tgt := 203) hx hb dX9_two_1 (by rw [kc1]; decide) (by rw [kc1]; decide) (by rw [kc1]; decide) (by decide) ?_
    refine lv_iload_n hx hb dX9_two_203 rfl (lv_at hl 1 rfl) ?_
    have ttl_0 := tl_0
    refine lv_if_ne (tgt := 211) hx hb dX9_two_204 (by decide) (fun c27 => ?_) (fun c27 => ?_)
    · have kc27 := c_ne c27
      exact j211 H locs ls hP hD hS (lv_sub hl [0, 1, 2] rfl)
    · have kc27 := c_eq c27
      refine lv_iload_n hx hb dX9_two_207 rfl (lv_at hl 2 rfl) ?_
      refine lv_if_eq (tgt := 215) hx hb dX9_two_208 (by decide) (fun c28 => ?_) (fun c28 => ?_)
      · have kc28 := c_eq c28
        refine lv_iconst (v := 0) hx hb dX9_two_215 (by decide) ?_
        exact tI hx hb hr hlk rfl hP hS ⟨trivial, rfl⟩ dX9_two_216
      · have kc28 := c_ne c28
        exact j211 H locs ls hP hD hS (lv_sub hl [0, 1, 2] rfl)
  · have kc1 := (c_eq c1).trans tl_51
    refine lv_tableIn (off := 202) (tgt := 203) hx hb dX9_two_1 (by rw [kc1]; decide) (by rw [kc1]; decide) (by rw [kc1]; decide) (by decide) ?_
    refine lv_iload_n hx hb dX9_two_203 rfl (lv_at hl 1 rfl) ?_
    have ttl_0 := tl_0
    refine lv_if_ne (tgt := 211) hx hb dX9_two_204 (by decide) (fun c29 => ?_) (fun c29 => ?_)
    · have kc29 := c_ne c29
      exact j211 H locs ls hP hD hS (lv_sub hl [0, 1, 2] rfl)
    · have kc29 := c_eq c29
      refine lv_iload_n hx hb dX9_two_207 rfl (lv_at hl 2 rfl) ?_
      refine lv_if_eq (tgt := 215) hx hb dX9_two_208 (by decide) (fun c30 => ?_) (fun c30 => ?_)
      · have kc30 := c_eq c30
        refine lv_iconst (v := 0) hx hb dX9_two_215 (by decide) ?_
        exact tI hx hb hr hlk rfl hP hS ⟨trivial, rfl⟩ dX9_two_216
      · have kc30 := c_ne c30
        exact j211 H locs ls hP hD hS (lv_sub hl [0, 1, 2] rfl)
  · have kc1 := (c_eq c1).trans tl_52
    refine lv_tableIn (off := 202) (tgt := 203) hx hb dX9_two_1 (by rw [kc1]; decide) (by rw [kc1]; decide) (by rw [kc1]; decide) (by decide) ?_
    refine lv_iload_n hx hb dX9_two_203 rfl (lv_at hl 1 rfl) ?_
    have ttl_0 := tl_0
    refine lv_if_ne (tgt := 211) hx hb dX9_two_204 (by decide) (fun c31 => ?_) (fun c31 => ?_)
    · have kc31 := c_ne c31
      exact j211 H locs ls hP hD hS (lv_sub hl [0, 1, 2] rfl)
    · have kc31 := c_eq c31
      refine lv_iload_n hx hb dX9_two_207 rfl (lv_at hl 2 rfl) ?_
      refine lv_if_eq (tgt := 215) hx hb dX9_two_208 (by decide) (fun c32 => ?_) (fun c32 => ?_)
      · have kc32 := c_eq c32
        refine lv_iconst (v := 0) hx hb dX9_two_215 (by decide) ?_
        exact tI hx hb hr hlk rfl hP hS ⟨trivial, rfl⟩ dX9_two_216
      · have kc32 := c_ne c32
        exact j211 H locs ls hP hD hS (lv_sub hl [0, 1, 2] rfl)
  · have kc1 := (c_eq c1).trans tl_53
    refine lv_tableIn (off := 202) (tgt := 203) hx hb dX9_two_1 (by rw [kc1]; decide) (by rw [kc1]; decide) (by rw [kc1]; decide) (by decide) ?_
    refine lv_iload_n hx hb dX9_two_203 rfl (lv_at hl 1 rfl) ?_
    have ttl_0 := tl_0
    refine lv_if_ne (tgt := 211) hx hb dX9_two_204 (by decide) (fun c33 => ?_) (fun c33 => ?_)
    · have kc33 := c_ne c33
      exact j211 H locs ls hP hD hS (lv_sub hl [0, 1, 2] rfl)
    · have kc33 := c_eq c33
      refine lv_iload_n hx hb dX9_two_207 rfl (lv_at hl 2 rfl) ?_
      refine lv_if_eq (tgt := 215) hx hb dX9_two_208 (by decide) (fun c34 => ?_) (fun c34 => ?_)
      · have kc34 := c_eq c34
        refine lv_iconst (v := 0) hx hb dX9_two_215 (by decide) ?_
        exact tI hx hb hr hlk rfl hP hS ⟨trivial, rfl⟩ dX9_two_216
      · have kc34 := c_ne c34
        exact j211 H locs ls hP hD hS (lv_sub hl [0, 1, 2] rfl)
  · have kc1 := (c_eq c1).trans tl_54
    refine lv_tableIn (off := 202) (tgt := 203) hx hb dX9_two_1 (by rw [kc1]; decide) (by rw [kc1]; decide) (by rw [kc1]; decide) (by decide) ?_
    refine lv_iload_n hx hb dX9_two_203 rfl (lv_at hl 1 rfl) ?_
    have ttl_0 := tl_0
    refine lv_if_ne (tgt := 211) hx hb dX9_two_204 (by decide) (fun c35 => ?_) (fun c35 => ?_)
    · have kc35 := c_ne c35
      exact j211 H locs ls hP hD hS (lv_sub hl [0, 1, 2] rfl)
    · have kc35 := c_eq c35
      refine lv_iload_n hx hb dX9_two_207 rfl (lv_at hl 2 rfl) ?_
      refine lv_if_eq (tgt := 215) hx hb dX9_two_208 (by decide) (fun c36 => ?_) (fun c36 => ?_)
      · have kc36 := c_eq c36
        refine lv_iconst (v := 0) hx hb dX9_two_215 (by decide) ?_
        exact tI hx hb hr hlk rfl hP hS ⟨trivial, rfl⟩ dX9_two_216
      · have kc36 := c_ne c36
        exact j211 H locs ls hP hD hS (lv_sub hl [0, 1, 2] rfl)
  · have kc1 := (c_eq c1).trans tl_55
    refine lv_tableIn (off := 202) (tgt := 203) hx hb dX9_two_1 (by rw [kc1]; decide) (by rw [kc1]; decide) (by rw [kc1]; decide) (by decide) ?_
    refine lv_iload_n hx hb dX9_two_203 rfl (lv_at hl 1 rfl) ?_
    have ttl_0 := tl_0
    refine lv_if_ne (tgt := 211) hx hb dX9_two_204 (by decide) (fun c37 => ?_) (fun c37 => ?_)
    · have kc37 := c_ne c37
      exact j211 H locs ls hP hD hS (lv_sub hl [0, 1, 2] rfl)
    · have kc37 := c_eq c37
      refine lv_iload_n hx hb dX9_two_207 rfl (lv_at hl 2 rfl) ?_
      refine lv_if_eq (tgt := 215) hx hb dX9_two_208 (by decide) (fun c38 => ?_) (fun c38 => ?_)
      · have kc38 := c_eq c38
        refine lv_iconst (v := 0) hx hb dX9_two_215 (by decide) ?_
        exact tI hx hb hr hlk rfl hP hS ⟨trivial, rfl⟩ dX9_two_216
      · have kc38 := c_ne c38
        exact j211 H locs ls hP hD hS (lv_sub hl [0, 1, 2] rfl)
  · have kc1 := (c_eq c1).trans tl_56
    refine lv_tableIn (off := 202) (tgt := 203) hx hb dX9_two_1 (by rw [kc1]; decide) (by rw [kc1]; decide) (by rw [kc1]; decide) (by decide) ?_
    refine lv_iload_n hx hb dX9_two_203 rfl (lv_at hl 1 rfl) ?_
    have ttl_0 := tl_0
    refine lv_if_ne (tgt := 211) hx hb dX9_two_204 (by decide) (fun c39 => ?_) (fun c39 => ?_)
    · have kc39 := c_ne c39
      exact j211 H locs ls hP hD hS (lv_sub hl [0, 1, 2] rfl)
    · have kc39 := c_eq c39
      refine lv_iload_n hx hb dX9_two_207 rfl (lv_at hl 2 rfl) ?_
      refine lv_if_eq (tgt := 215) hx hb dX9_two_208 (by decide) (fun c40 => ?_) (fun c40 => ?_)
      · have kc40 := c_eq c40
        refine lv_iconst (v := 0) hx hb dX9_two_215 (by decide) ?_
        exact tI hx hb hr hlk rfl hP hS ⟨trivial, rfl⟩ dX9_two_216
      · have kc40 := c_ne c40
        exact j211 H locs ls hP hD hS (lv_sub hl [0, 1, 2] rfl)
  · have kc1 := (c_eq c1).trans tl_57
    refine lv_tableIn (off := 202) (tgt := 203) hx hb dX9_two_1 (by rw [kc1]; decide) (by rw [kc1]; decide) (by rw [kc1]; decide) (by decide) ?_
    refine lv_iload_n hx hb dX9_two_203 rfl (lv_at hl 1 rfl) ?_
    have ttl_0 := tl_0
    refine lv_if_ne (tgt := 211) hx hb dX9_two_204 (by decide) (fun c41 => ?_) (fun c41 => ?_)
    · have kc41 := c_ne c41
      exact j211 H locs ls hP hD hS (lv_sub hl [0, 1, 2] rfl)
    · have kc41 := c_eq c41
      refine lv_iload_n hx hb dX9_two_207 rfl (lv_at hl 2 rfl) ?_
      refine lv_if_eq (tgt := 215) hx hb dX9_two_208 (by decide) (fun c42 => ?_) (fun c42 => ?_)
      · have kc42 := c_eq c42
        refine lv_iconst (v := 0) hx hb dX9_two_215 (by decide) ?_
        exact tI hx hb hr hlk rfl hP hS ⟨trivial, rfl⟩ dX9_two_216
      · have kc42 := c_ne c42
        exact j211 H locs ls hP hD hS (lv_sub hl [0, 1, 2] rfl)
  · have kc1 := (c_eq c1).trans tl_58
    refine lv_tableIn (off := 202) (tgt := 203) hx hb dX9_two_1 (by rw [kc1]; decide) (by rw [kc1]; decide) (by rw [kc1]; decide) (by decide) ?_
    refine lv_iload_n hx hb dX9_two_203 rfl (lv_at hl 1 rfl) ?_
    have ttl_0 := tl_0
    refine lv_if_ne (tgt := 211) hx hb dX9_two_204 (by decide) (fun c43 => ?_) (fun c43 => ?_)
    · have kc43 := c_ne c43
      exact j211 H locs ls hP hD hS (lv_sub hl [0, 1, 2] rfl)
    · have kc43 := c_eq c43
      refine lv_iload_n hx hb dX9_two_207 rfl (lv_at hl 2 rfl) ?_
      refine lv_if_eq (tgt := 215) hx hb dX9_two_208 (by decide) (fun c44 => ?_) (fun c44 => ?_)
      · have kc44 := c_eq c44
        refine lv_iconst (v := 0) hx hb dX9_two_215 (by decide) ?_
        exact tI hx hb hr hlk rfl hP hS ⟨trivial, rfl⟩ dX9_two_216
      · have kc44 := c_ne c44
        exact j211 H locs ls hP hD hS (lv_sub hl [0, 1, 2] rfl)
  · have kc1 := (c_eq c1).trans tl_59
    refine lv_tableIn (off := 202) (tgt := 203) hx hb dX9_two_1 (by rw [kc1]; decide) (by rw [kc1]; decide) (by rw [kc1]; decide) (by decide) ?_
    refine lv_iload_n hx hb dX9_two_203 rfl (lv_at hl 1 rfl) ?_
    have ttl_0 := tl_0
    refine lv_if_ne (tgt := 211) hx hb dX9_two_204 (by decide) (fun c45 => ?_) (fun c45 => ?_)
    · have kc45 := c_ne c45
      exact j211 H locs ls hP hD hS (lv_sub hl [0, 1, 2] rfl)
    · have kc45 := c_eq c45
      refine lv_iload_n hx hb dX9_two_207 rfl (lv_at hl 2 rfl) ?_
      refine lv_if_eq (tgt := 215) hx hb dX9_two_208 (by decide) (fun c46 => ?_) (fun c46 => ?_)
      · have kc46 := c_eq c46
        refine lv_iconst (v := 0) hx hb dX9_two_215 (by decide) ?_
        exact tI hx hb hr hlk rfl hP hS ⟨trivial, rfl⟩ dX9_two_216
      · have kc46 := c_ne c46
        exact j211 H locs ls hP hD hS (lv_sub hl [0, 1, 2] rfl)
  · have kc1 := (c_eq c1).trans tl_60
    refine lv_tableIn (off := 155) (tgt := 156) hx hb dX9_two_1 (by rw [kc1]; decide) (by rw [kc1]; decide) (by rw [kc1]; decide) (by decide) ?_
    refine lv_iload_n hx hb dX9_two_156 rfl (lv_at hl 1 rfl) ?_
    refine lv_iload_n hx hb dX9_two_157 rfl (lv_at hl 2 rfl) ?_
    refine lv_icmp_ge (tgt := 165) hx hb dX9_two_158 (by decide) (fun c47 => ?_) (fun c47 => ?_)
    · have kc47 := c_le c47
      refine lv_iconst (v := 0) hx hb dX9_two_165 (by decide) ?_
      have ttl_0 := tl_0
      exact tI hx hb hr hlk rfl hP hS ⟨trivial, rfl⟩ dX9_two_166
    · have kc47 := c_nle c47
      refine lv_iconst (v := 1) hx hb dX9_two_161 (by decide) ?_
      refine lv_goto (tgt := 166) hx hb dX9_two_162 (by decide) ?_
      have ttl_1 := tl_1
      exact tI hx hb hr hlk rfl hP hS ⟨trivial, rfl⟩ dX9_two_166
  · have kc1 := (c_eq c1).trans tl_61
    refine lv_tableIn (off := 177) (tgt := 178) hx hb dX9_two_1 (by rw [kc1]; decide) (by rw [kc1]; decide) (by rw [kc1]; decide) (by decide) ?_
    refine lv_iload_n hx hb dX9_two_178 rfl (lv_at hl 1 rfl) ?_
    refine lv_iload_n hx hb dX9_two_179 rfl (lv_at hl 2 rfl) ?_
    refine lv_icmp_ne (tgt := 187) hx hb dX9_two_180 (by decide) (fun c48 => ?_) (fun c48 => ?_)
    · have kc48 := c_ne c48
      refine lv_iconst (v := 0) hx hb dX9_two_187 (by decide) ?_
      have ttl_0 := tl_0
      exact tI hx hb hr hlk rfl hP hS ⟨trivial, rfl⟩ dX9_two_188
    · have kc48 := c_eq c48
      refine lv_iconst (v := 1) hx hb dX9_two_183 (by decide) ?_
      refine lv_goto (tgt := 188) hx hb dX9_two_184 (by decide) ?_
      have ttl_1 := tl_1
      exact tI hx hb hr hlk rfl hP hS ⟨trivial, rfl⟩ dX9_two_188
  · have kc1 := (c_eq c1).trans tl_62
    refine lv_tableIn (off := 166) (tgt := 167) hx hb dX9_two_1 (by rw [kc1]; decide) (by rw [kc1]; decide) (by rw [kc1]; decide) (by decide) ?_
    refine lv_iload_n hx hb dX9_two_167 rfl (lv_at hl 1 rfl) ?_
    refine lv_iload_n hx hb dX9_two_168 rfl (lv_at hl 2 rfl) ?_
    refine lv_icmp_le (tgt := 176) hx hb dX9_two_169 (by decide) (fun c49 => ?_) (fun c49 => ?_)
    · have kc49 := c_le c49
      refine lv_iconst (v := 0) hx hb dX9_two_176 (by decide) ?_
      have ttl_0 := tl_0
      exact tI hx hb hr hlk rfl hP hS ⟨trivial, rfl⟩ dX9_two_177
    · have kc49 := c_nle c49
      refine lv_iconst (v := 1) hx hb dX9_two_172 (by decide) ?_
      refine lv_goto (tgt := 177) hx hb dX9_two_173 (by decide) ?_
      have ttl_1 := tl_1
      exact tI hx hb hr hlk rfl hP hS ⟨trivial, rfl⟩ dX9_two_177
set_option maxHeartbeats 4000000 in
set_option maxRecDepth 100000 in
theorem s_X9_comes_0 (l : Launch) (B0 : Nat) (adK adV : Nat → Nat) (D : va_G) (cy : Nat → ClassId) (ad : Nat → Nat) (fr0 : Nat → va_E) (c_text : Nat → Int32) (m_taped : Int32) (m_size : Int32) (m_faultKind : Int32) (m_faultPlace : Int32) (m_at : Int32) (m_end : Int32) (m_token : Int32) (m_number : Int32) (m_name : Int64) (c_points : Nat → Int32) (c_strands : Nat → Int32) (c_units : Nat → Int32) (c_told : Nat → Int32) (c_ruleFrom : Nat → Int32) (c_ruleTo : Nat → Int32) (c_code : Nat → Int32) (c_eWhat : Nat → Int32) (c_eSign : Nat → Int32) (m_bank : Int32) (m_rb : Int32) (m_codes : Int32) (m_within : Int32) (m_piled : Int32) (m_unitsInRule : Int32) (m_askStrand : Int32) (m_askTied : Int32) (m_thoughtClaim : Int32) (m_thoughtNeed : Int32) (m_thoughtAll : Int32) (c_roundOf : Nat → Int32) (m_acts : Int32) (m_undone : Int32) (m_laid : Int32) (m_firstMove : Int32) (m_seens : Int32) (m_time : Int32) (m_waysNow : Int32) (m_fitting : Int32) (f : Nat → va_E) (hT : TYm ad cy fr0 c_text m_taped m_size m_faultKind m_faultPlace m_at m_end m_token m_number m_name c_points c_strands c_units c_told c_ruleFrom c_ruleTo c_code c_eWhat c_eSign m_bank m_rb m_codes m_within m_piled m_unitsInRule m_askStrand m_askTied m_thoughtClaim m_thoughtNeed m_thoughtAll c_roundOf m_acts m_undone m_laid m_firstMove m_seens m_time m_waysNow m_fitting f) (hOR : okR c_code (c_ruleFrom m_bank.toNatClampNeg) (c_ruleTo m_bank.toNatClampNeg) m_bank.toInt) (sz : Nat) : TtI l yX9_comes wsX9_comes 3 66 [.ref (ad 148)] B0 adK adV D cy ad f sz (fun (r : Int32) (g : Nat → va_E) => True ∧ (TYm ad cy fr0 c_text m_taped m_size m_faultKind m_faultPlace m_at m_end m_token m_number m_name c_points c_strands c_units c_told c_ruleFrom c_ruleTo c_code c_eWhat c_eSign m_bank m_rb m_codes m_within m_piled m_unitsInRule m_askStrand m_askTied m_thoughtClaim m_thoughtNeed m_thoughtAll c_roundOf m_acts m_undone m_laid m_firstMove m_seens m_time m_waysNow m_fitting g)) := by
  refine TtI.of (cc := cX9_comes) (maxL := 4) (ty := .int) (own := RX9) (by decide) rfl (Nat.le_of_ble_eq_true rfl) rfl ?_
  intro p e s m below meth c A ls hx hb hr hml hts hown hlk hK hE hP hD hS hA hAB hl
  have hl : lv_has ls 4 [(0, .ref (ad 148))] := hl
  refine st0 (fun H locs hP hS => ?_) hP hS
  have j12 : ∀ (N : Nat) (f : Nat → va_E) (H : Heap) (locs : List Loc) (ls : Array Slot) (v12_l2 : Int32) (v12_l1 : Int32), (1121 - v12_l2.toInt ≤ (N : Int)) → (-1 ≤ v12_l1.toInt ∧ v12_l1.toInt ≤ 60) → (v12_l1.toInt = dpZ c_code (c_ruleFrom m_bank.toNatClampNeg) v12_l2.toInt) → ((0 ≤ v12_l1.toInt ∧ v12_l1.toInt ≤ 60)) → ((0 ≤ v12_l2.toInt ∧ (c_ruleFrom m_bank.toNatClampNeg).toInt ≤ v12_l2.toInt ∧ v12_l2.toInt ≤ 1120)) → (TYm ad cy fr0 c_text m_taped m_size m_faultKind m_faultPlace m_at m_end m_token m_number m_name c_points c_strands c_units c_told c_ruleFrom c_ruleTo c_code c_eWhat c_eSign m_bank m_rb m_codes m_within m_piled m_unitsInRule m_askStrand m_askTied m_thoughtClaim m_thoughtNeed m_thoughtAll c_roundOf m_acts m_undone m_laid m_firstMove m_seens m_time m_waysNow m_fitting f) → (va_P D vwCl (wl ad f) H) → (va_D A (wl ad f)) → (va_S A s.heap H locs) → (lv_has ls 4 [(2, .int v12_l2), (1, .int v12_l1), (0, .ref (ad 148))]) → W p l e (rmO 3 66 0 0) s m ([.ref (ad 148)] : List Value).toArray below meth c H locs 0 0 (MQ below (va_Qi (fun (r : Int32) (g : Nat → va_E) => True ∧ (TYm ad cy fr0 c_text m_taped m_size m_faultKind m_faultPlace m_at m_end m_token m_number m_name c_points c_strands c_units c_told c_ruleFrom c_ruleTo c_code c_eWhat c_eSign m_bank m_rb m_codes m_within m_piled m_unitsInRule m_askStrand m_askTied m_thoughtClaim m_thoughtNeed m_thoughtAll c_roundOf m_acts m_undone m_laid m_firstMove m_seens m_time m_waysNow m_fitting g)) (fun g t => PstT D ad g t) A) ([.ref (ad 148)] : List Value).toArray s 0 0 A) (F0 m 12 ls []) := by
    intro N
    induction N with
    | zero => intro f H locs ls v12_l2 v12_l1 hN hv12_l1 hJ12_0 hJ12_1 hJ12_2 hT hP hD hS hl; exact absurd hN (by omega)
    | succ N ih12 =>
      intro f H locs ls v12_l2 v12_l1 hN hv12_l1 hJ12_0 hJ12_1 hJ12_2 hT hP hD hS hl
      have j124 : ∀ (f : Nat → va_E) (H : Heap) (locs : List Loc) (ls : Array Slot) (v124_l1 : Int32) (v124_l3 : Int32), (1 ≤ v124_l1.toInt ∧ v124_l1.toInt ≤ 60) → (0 ≤ v12_l2.toInt ∧ v12_l2.toInt ≤ 1119) → (v124_l1.toInt = dpZ c_code (c_ruleFrom m_bank.toNatClampNeg) (v12_l2.toInt + 1)) → ((0 ≤ v124_l1.toInt ∧ v124_l1.toInt ≤ 60)) → ((0 ≤ v12_l2.toInt ∧ (c_ruleFrom m_bank.toNatClampNeg).toInt ≤ v12_l2.toInt ∧ v12_l2.toInt ≤ 1119)) → (TYm ad cy fr0 c_text m_taped m_size m_faultKind m_faultPlace m_at m_end m_token m_number m_name c_points c_strands c_units c_told c_ruleFrom c_ruleTo c_code c_eWhat c_eSign m_bank m_rb m_codes m_within m_piled m_unitsInRule m_askStrand m_askTied m_thoughtClaim m_thoughtNeed m_thoughtAll c_roundOf m_acts m_undone m_laid m_firstMove m_seens m_time m_waysNow m_fitting f) → (va_P D vwCl (wl ad f) H) → (va_D A (wl ad f)) → (va_S A s.heap H locs) → (lv_has ls 4 [(1, .int v124_l1), (3, .int v124_l3), (2, .int v12_l2), (0, .ref (ad 148))]) → W p l e (rmO 3 66 0 0) s m ([.ref (ad 148)] : List Value).toArray below meth c H locs 0 0 (MQ below (va_Qi (fun (r : Int32) (g : Nat → va_E) => True ∧ (TYm ad cy fr0 c_text m_taped m_size m_faultKind m_faultPlace m_at m_end m_token m_number m_name c_points c_strands c_units c_told c_ruleFrom c_ruleTo c_code c_eWhat c_eSign m_bank m_rb m_codes m_within m_piled m_unitsInRule m_askStrand m_askTied m_thoughtClaim m_thoughtNeed m_thoughtAll c_roundOf m_acts m_undone m_laid m_firstMove m_seens m_time m_waysNow m_fitting g)) (fun g t => PstT D ad g t) A) ([.ref (ad 148)] : List Value).toArray s 0 0 A) (F0 m 124 ls []) := by
        intro f H locs ls v124_l1 v124_l3 hv124_l1 hv124_l2 hJ124_0 hJ124_1 hJ124_2 hT hP hD hS hl
        obtain ⟨x1, ex1⟩ : ∃ q : Int32, q = v12_l2 + Int32.ofInt (1) := ⟨_, rfl⟩
        refine lv_iinc (v := x1) (lv' := [(2, .int x1), (1, .int v124_l1), (3, .int v124_l3), (0, .ref (ad 148))]) hx hb dX9_comes_124 hl (k := 2) rfl ex1.symm (by decide) rfl (fun ls hl => ?_)
        have hx1 := r_inc ex1 (by decide) (by omega) (by omega)
        have hdn := congrArg (dpZ c_code (c_ruleFrom m_bank.toNatClampNeg)) hx1
        refine lv_goto (tgt := 12) hx hb dX9_comes_127 (by decide) ?_
        obtain ⟨e17, h2, h3, h4, h5, h6, h7, h8, h9, h10, h11, h12, h13, h14, h15, h16⟩ := (show okX9 ad m_taped m_size m_faultKind m_faultPlace m_at m_end m_token m_number m_name m_bank m_rb m_codes m_within m_piled m_unitsInRule m_askStrand m_askTied m_thoughtClaim m_thoughtNeed m_thoughtAll m_acts m_undone m_laid m_firstMove m_seens m_time m_waysNow m_fitting 148 (f 148) from hT.1 148 (by decide))
        exact ih12 f H locs ls x1 v124_l1 (by omega) (by omega) (by omega) (by omega) (by omega) hT hP hD hS (lv_sub hl [0, 1, 3] rfl)
      have j61 : ∀ (f : Nat → va_E) (H : Heap) (locs : List Loc) (ls : Array Slot) (v61_l3 : Int32) (v61_s1 : Int32) (v61_s2 : Int32), (126 ≤ v61_l3.toInt ∧ v61_l3.toInt ≤ 126) → (0 ≤ v12_l2.toInt ∧ v12_l2.toInt ≤ 1119) → (1 ≤ v12_l1.toInt ∧ v12_l1.toInt ≤ 60) → (0 ≤ v61_s1.toInt ∧ v61_s1.toInt ≤ 59) → (0 ≤ v61_s2.toInt ∧ v61_s2.toInt ≤ 1) → (v12_l1.toInt = dpZ c_code (c_ruleFrom m_bank.toNatClampNeg) (v12_l2.toInt + 1)) → ((1 ≤ v12_l1.toInt ∧ v12_l1.toInt ≤ 60)) → ((0 ≤ v12_l2.toInt ∧ (c_ruleFrom m_bank.toNatClampNeg).toInt ≤ v12_l2.toInt ∧ v12_l2.toInt ≤ 1119)) → (TYm ad cy fr0 c_text m_taped m_size m_faultKind m_faultPlace m_at m_end m_token m_number m_name c_points c_strands c_units c_told c_ruleFrom c_ruleTo c_code c_eWhat c_eSign m_bank m_rb m_codes m_within m_piled m_unitsInRule m_askStrand m_askTied m_thoughtClaim m_thoughtNeed m_thoughtAll c_roundOf m_acts m_undone m_laid m_firstMove m_seens m_time m_waysNow m_fitting f) → (va_P D vwCl (wl ad f) H) → (va_D A (wl ad f)) → (va_S A s.heap H locs) → (lv_has ls 4 [(3, .int v61_l3), (2, .int v12_l2), (1, .int v12_l1), (0, .ref (ad 148))]) → W p l e (rmO 3 66 0 0) s m ([.ref (ad 148)] : List Value).toArray below meth c H locs 0 0 (MQ below (va_Qi (fun (r : Int32) (g : Nat → va_E) => True ∧ (TYm ad cy fr0 c_text m_taped m_size m_faultKind m_faultPlace m_at m_end m_token m_number m_name c_points c_strands c_units c_told c_ruleFrom c_ruleTo c_code c_eWhat c_eSign m_bank m_rb m_codes m_within m_piled m_unitsInRule m_askStrand m_askTied m_thoughtClaim m_thoughtNeed m_thoughtAll c_roundOf m_acts m_undone m_laid m_firstMove m_seens m_time m_waysNow m_fitting g)) (fun g t => PstT D ad g t) A) ([.ref (ad 148)] : List Value).toArray s 0 0 A) (F0 m 61 ls [.int v61_s2, .int v61_s1, .ref (ad 168)]) := by
        intro f H locs ls v61_l3 v61_s1 v61_s2 hv61_l3 hv61_l2 hv61_l1 hv61_s1 hv61_s2 hJ61_0 hJ61_1 hJ61_2 hT hP hD hS hl
        obtain ⟨g19, e18⟩ := (show okI cy 60 (f 168) from hT.1 168 (by decide))
        refine va_iast hx hb hK hP hD hS 168 0 (wl_at (by decide) e18) rfl (vp_in_iff.mpr ⟨by omega, by omega⟩) dX9_comes_61 (fun H locs hP hD hS => ?_)
        obtain ⟨f, hT, hP, hD, e20, hj21⟩ := stU (by decide) (TYm.up hT (by decide) (show OKm ad cy c_text m_taped m_size m_faultKind m_faultPlace m_at m_end m_token m_number m_name c_points c_strands c_units c_told c_ruleFrom c_ruleTo c_code c_eWhat c_eSign m_bank m_rb m_codes m_within m_piled m_unitsInRule m_askStrand m_askTied m_thoughtClaim m_thoughtNeed m_thoughtAll c_roundOf m_acts m_undone m_laid m_firstMove m_seens m_time m_waysNow m_fitting 168 _ from (show okI cy 60 _ from ⟨_, rfl⟩))) hP hD
        refine lv_goto (tgt := 124) hx hb dX9_comes_62 (by decide) ?_
        obtain ⟨e37, h22, h23, h24, h25, h26, h27, h28, h29, h30, h31, h32, h33, h34, h35, h36⟩ := (show okX9 ad m_taped m_size m_faultKind m_faultPlace m_at m_end m_token m_number m_name m_bank m_rb m_codes m_within m_piled m_unitsInRule m_askStrand m_askTied m_thoughtClaim m_thoughtNeed m_thoughtAll m_acts m_undone m_laid m_firstMove m_seens m_time m_waysNow m_fitting 148 (f 148) from hT.1 148 (by decide))
        exact j124 f H locs ls v12_l1 v61_l3 (by omega) (by omega) (by omega) (by omega) (by omega) hT hP hD hS (lv_sub hl [2, 0, 1, 3] rfl)
      have hor := okR_rng hOR
      have ha38 : 0 ≤ v12_l1.toInt ∧ v12_l1.toInt ≤ 60 := by omega
      have ha39 : 0 ≤ v12_l2.toInt ∧ v12_l2.toInt ≤ 1120 := by omega
      refine lv_iload_n hx hb dX9_comes_12 rfl (lv_at hl 0 rfl) ?_
      refine lv_aload_n hx hb dX9_comes_13 rfl (lv_at hl 2 rfl) ?_
      obtain ⟨e55, h40, h41, h42, h43, h44, h45, h46, h47, h48, h49, h50, h51, h52, h53, h54⟩ := (show okX9 ad m_taped m_size m_faultKind m_faultPlace m_at m_end m_token m_number m_name m_bank m_rb m_codes m_within m_piled m_unitsInRule m_askStrand m_askTied m_thoughtClaim m_thoughtNeed m_thoughtAll m_acts m_undone m_laid m_firstMove m_seens m_time m_waysNow m_fitting 148 (f 148) from hT.1 148 (by decide))
      refine va_get (D := D) (cl := vwCl) (ci := 9) (v := .ref (ad 162)) (C := RX9) (T := TX9) (N := 64) hx hb hts in_X9_comes_X9 hown hK hP 148 (wl_at (by decide) e55) rfl 22 (by decide) (hts (.fieldLink RX9 54 "EightReasonsModel" "ruleTo" "[I") (List.mem_of_getElem? (i := 3) rfl)) (fun _ h9 => h9) rfl dX9_comes_14 ?_
      refine lv_aload_n hx hb dX9_comes_17 rfl (lv_at hl 2 rfl) ?_
      refine va_get (D := D) (cl := vwCl) (ci := 9) (v := .int m_bank) (C := RX9) (T := TX9) (N := 64) hx hb hts in_X9_comes_X9 hown hK hP 148 (wl_at (by decide) e55) rfl 29 (by decide) (hts (.fieldLink RX9 239 "EightReasonsModel" "bank" "I") (List.mem_of_getElem? (i := 2) rfl)) (fun _ h9 => h9) rfl dX9_comes_18 ?_
      have e56 : f 162 = _ := (show okIp cy 2 c_ruleTo (f 162) from hT.1 162 (by decide))
      refine va_iald hx hb hK hP 162 0 (wl_at (by decide) e56) rfl (vp_in_iff.mpr ⟨by omega, by omega⟩) dX9_comes_21 ?_
      refine lv_topi (fun x57 ex57 => ?_)
      have kx57 := congrArg Int32.toInt ex57
      refine lv_icmp_ge (tgt := 130) hx hb dX9_comes_22 (by decide) (fun c58 => ?_) (fun c58 => ?_)
      · have kc58 := c_le c58
        refine lv_aload_n hx hb dX9_comes_130 rfl (lv_at hl 2 rfl) ?_
        refine va_get (D := D) (cl := vwCl) (ci := 9) (v := .ref (ad 168)) (C := RX9) (T := TX9) (N := 64) hx hb hts in_X9_comes_X9 hown hK hP 148 (wl_at (by decide) e55) rfl 28 (by decide) (hts (.fieldLink RX9 73 "EightReasonsModel" "pile" "[I") (List.mem_of_getElem? (i := 5) rfl)) (fun _ h9 => h9) rfl dX9_comes_131 ?_
        refine lv_iconst (v := 0) hx hb dX9_comes_134 (by decide) ?_
        obtain ⟨g60, e59⟩ := (show okI cy 60 (f 168) from hT.1 168 (by decide))
        have ttl_0 := tl_0
        refine va_iald hx hb hK hP 168 0 (wl_at (by decide) e59) rfl (vin (by decide)) dX9_comes_135 ?_
        refine lv_topi (fun x61 ex61 => ?_)
        exact tI hx hb hr hlk rfl hP hS ⟨trivial, hT⟩ dX9_comes_136
      · have kc58 := c_nle c58
        have ha62 : 0 ≤ v12_l2.toInt ∧ v12_l2.toInt ≤ 1119 := by omega
        refine lv_aload_n hx hb dX9_comes_25 rfl (lv_at hl 2 rfl) ?_
        refine va_get (D := D) (cl := vwCl) (ci := 9) (v := .ref (ad 164)) (C := RX9) (T := TX9) (N := 64) hx hb hts in_X9_comes_X9 hown hK hP 148 (wl_at (by decide) e55) rfl 24 (by decide) (hts (.fieldLink RX9 61 "EightReasonsModel" "code" "[I") (List.mem_of_getElem? (i := 4) rfl)) (fun _ h9 => h9) rfl dX9_comes_26 ?_
        refine lv_iload_n hx hb dX9_comes_29 rfl (lv_at hl 0 rfl) ?_
        have e63 : f 164 = _ := (show okIp cy 1120 c_code (f 164) from hT.1 164 (by decide))
        refine va_iald hx hb hK hP 164 0 (wl_at (by decide) e63) rfl (vp_in_iff.mpr ⟨by omega, by omega⟩) dX9_comes_30 ?_
        refine lv_topi (fun x64 ex64 => ?_)
        have kx64 := congrArg Int32.toInt ex64
        have hst := okR_step (k := v12_l2) (c := x64) hOR (by omega) (by omega) (by assumption)
        refine lv_istore_n (lv' := [(3, .int x64), (2, .int v12_l2), (1, .int v12_l1), (0, .ref (ad 148))]) hx hb dX9_comes_31 rfl hl (by decide) rfl (fun ls hl => ?_)
        refine lv_iload_n hx hb dX9_comes_32 rfl (lv_at hl 0 rfl) ?_
        refine lv_bipush (v := 126) hx hb dX9_comes_33 (by decide) ?_
        have ttl_126 := tl_126
        refine lv_icmp_ne (tgt := 65) hx hb dX9_comes_35 (by decide) (fun c65 => ?_) (fun c65 => ?_)
        · have kc65 := c_ne c65
          refine lv_iload_n hx hb dX9_comes_65 rfl (lv_at hl 0 rfl) ?_
          refine tSI (As := [.int x64]) (rest := []) ⟨hx, hb, hml, hown, hts⟩ hK hE hP hD hS hA hAB (s_X9_isLetter_0 l B0 adK adV D cy ad f x64 _) (va_cwS 1 hts gX9_comes_X9_isLetter rfl rfl rfl (by decide +kernel) ⟨Nat.le_of_ble_eq_true rfl, Nat.le_of_ble_eq_true rfl⟩) rfl hl.1 rfl (Nat.le_of_ble_eq_true rfl) dX9_comes_66 ⟨Nat.le_of_ble_eq_true rfl, Nat.le_of_ble_eq_true rfl⟩ (fun r g H locs hw hP hD hS => ?_)
          obtain ⟨hrs, rfl⟩ := hw
          obtain ⟨x66, rfl⟩ : ∃ q, q = r := ⟨_, rfl⟩
          rcases hrs with ⟨rfl, h67, h68⟩ | ⟨rfl, h69⟩
          · refine lv_if_eq (tgt := 95) hx hb dX9_comes_69 (by decide) (fun c => absurd c (by decide)) (fun _ => ?_)
            have ha70 : 0 ≤ v12_l1.toInt ∧ v12_l1.toInt ≤ 59 := by omega
            refine lv_aload_n hx hb dX9_comes_72 rfl (lv_at hl 3 rfl) ?_
            refine va_get (D := D) (cl := vwCl) (ci := 9) (v := .ref (ad 168)) (C := RX9) (T := TX9) (N := 64) hx hb hts in_X9_comes_X9 hown hK hP 148 (wl_at (by decide) e55) rfl 28 (by decide) (hts (.fieldLink RX9 73 "EightReasonsModel" "pile" "[I") (List.mem_of_getElem? (i := 5) rfl)) (fun _ h9 => h9) rfl dX9_comes_73 ?_
            refine lv_iload_n hx hb dX9_comes_76 rfl (lv_at hl 2 rfl) ?_
            refine lv_aload_n hx hb dX9_comes_77 rfl (lv_at hl 3 rfl) ?_
            refine lv_iload_n hx hb dX9_comes_78 rfl (lv_at hl 0 rfl) ?_
            refine lv_aload_n hx hb dX9_comes_79 rfl (lv_at hl 3 rfl) ?_
            refine va_get (D := D) (cl := vwCl) (ci := 9) (v := .ref (ad 165)) (C := RX9) (T := TX9) (N := 64) hx hb hts in_X9_comes_X9 hown hK hP 148 (wl_at (by decide) e55) rfl 25 (by decide) (hts (.fieldLink RX9 64 "EightReasonsModel" "codeNumber" "[I") (List.mem_of_getElem? (i := 6) rfl)) (fun _ h9 => h9) rfl dX9_comes_80 ?_
            refine lv_iload_n hx hb dX9_comes_83 rfl (lv_at hl 1 rfl) ?_
            obtain ⟨g72, e71⟩ := (show okI cy 1120 (f 165) from hT.1 165 (by decide))
            refine va_iald hx hb hK hP 165 0 (wl_at (by decide) e71) rfl (vp_in_iff.mpr ⟨by omega, by omega⟩) dX9_comes_84 ?_
            refine lv_topi (fun x73 ex73 => ?_)
            refine tVI (As := [.int x64, .int x73]) (rest := [.int v12_l1, .ref (ad 168)]) (i := 148) ⟨hx, hb, hml, hown, hts⟩ hK hE hP hD hS hA hAB (s_X9_asked_0 l B0 adK adV D cy ad fr0 c_text m_taped m_size m_faultKind m_faultPlace m_at m_end m_token m_number m_name c_points c_strands c_units c_told c_ruleFrom c_ruleTo c_code c_eWhat c_eSign m_bank m_rb m_codes m_within m_piled m_unitsInRule m_askStrand m_askTied m_thoughtClaim m_thoughtNeed m_thoughtAll c_roundOf m_acts m_undone m_laid m_firstMove m_seens m_time m_waysNow m_fitting f hT x64 (by omega) x73 _) (cwV 2 hts gX9_comes_X9_asked rfl rfl rfl (by decide +kernel) ⟨Nat.le_of_ble_eq_true rfl, Nat.le_of_ble_eq_true rfl⟩) (by decide) 9 e55 rfl rfl hl.1 rfl (Nat.le_of_ble_eq_true rfl) dX9_comes_85 ⟨Nat.le_of_ble_eq_true rfl, Nat.le_of_ble_eq_true rfl⟩ (fun r g H locs hw hP hD hS => ?_)
            obtain ⟨hrs, rfl⟩ := hw
            obtain ⟨x74, rfl⟩ : ∃ q, q = r := ⟨_, rfl⟩
            have h75 := hrs
            obtain ⟨g77, e76⟩ := (show okI cy 60 (f 168) from hT.1 168 (by decide))
            refine va_iast hx hb hK hP hD hS 168 0 (wl_at (by decide) e76) rfl (vp_in_iff.mpr ⟨by omega, by omega⟩) dX9_comes_88 (fun H locs hP hD hS => ?_)
            obtain ⟨f, hT, hP, hD, e78, hj79⟩ := stU (by decide) (TYm.up hT (by decide) (show OKm ad cy c_text m_taped m_size m_faultKind m_faultPlace m_at m_end m_token m_number m_name c_points c_strands c_units c_told c_ruleFrom c_ruleTo c_code c_eWhat c_eSign m_bank m_rb m_codes m_within m_piled m_unitsInRule m_askStrand m_askTied m_thoughtClaim m_thoughtNeed m_thoughtAll c_roundOf m_acts m_undone m_laid m_firstMove m_seens m_time m_waysNow m_fitting 168 _ from (show okI cy 60 _ from ⟨_, rfl⟩))) hP hD
            have e80 := (hj79 148 (by decide)).trans e55
            have e81 := (hj79 162 (by decide)).trans e56
            have e82 := (hj79 164 (by decide)).trans e63
            have e83 := (hj79 165 (by decide)).trans e71
            obtain ⟨x84, ex84⟩ : ∃ q : Int32, q = v12_l1 + Int32.ofInt (1) := ⟨_, rfl⟩
            refine lv_iinc (v := x84) (lv' := [(1, .int x84), (3, .int x64), (2, .int v12_l2), (0, .ref (ad 148))]) hx hb dX9_comes_89 hl (k := 2) rfl ex84.symm (by decide) rfl (fun ls hl => ?_)
            have hx84 := r_inc ex84 (by decide) (by omega) (by omega)
            refine lv_goto (tgt := 124) hx hb dX9_comes_92 (by decide) ?_
            exact j124 f H locs ls x84 x64 (by omega) (by omega) (by omega) (by omega) (by omega) hT hP hD hS (lv_sub hl [0, 1, 2, 3] rfl)
          · refine lv_if_eq (tgt := 95) hx hb dX9_comes_69 (by decide) (fun _ => ?_) (fun c => absurd (by decide) c)
            have ha85 : 2 ≤ v12_l1.toInt ∧ v12_l1.toInt ≤ 60 := by omega
            obtain ⟨x86, ex86⟩ : ∃ q : Int32, q = v12_l1 + Int32.ofInt (-1) := ⟨_, rfl⟩
            refine lv_iinc (v := x86) (lv' := [(1, .int x86), (3, .int x64), (2, .int v12_l2), (0, .ref (ad 148))]) hx hb dX9_comes_95 hl (k := 2) rfl ex86.symm (by decide) rfl (fun ls hl => ?_)
            have hx86 := r_inc ex86 (by decide) (by omega) (by omega)
            refine lv_aload_n hx hb dX9_comes_98 rfl (lv_at hl 3 rfl) ?_
            refine va_get (D := D) (cl := vwCl) (ci := 9) (v := .ref (ad 168)) (C := RX9) (T := TX9) (N := 64) hx hb hts in_X9_comes_X9 hown hK hP 148 (wl_at (by decide) e55) rfl 28 (by decide) (hts (.fieldLink RX9 73 "EightReasonsModel" "pile" "[I") (List.mem_of_getElem? (i := 5) rfl)) (fun _ h9 => h9) rfl dX9_comes_99 ?_
            refine lv_iload_n hx hb dX9_comes_102 rfl (lv_at hl 0 rfl) ?_
            refine lv_iconst (v := 1) hx hb dX9_comes_103 (by decide) ?_
            have ttl_1 := tl_1
            refine lv_isub hx hb dX9_comes_104 ?_
            refine lv_topi (fun x87 ex87 => ?_)
            have hx87 := r_sub ex87 (by omega) (by omega)
            refine lv_iload_n hx hb dX9_comes_105 rfl (lv_at hl 1 rfl) ?_
            refine lv_aload_n hx hb dX9_comes_106 rfl (lv_at hl 3 rfl) ?_
            refine va_get (D := D) (cl := vwCl) (ci := 9) (v := .ref (ad 168)) (C := RX9) (T := TX9) (N := 64) hx hb hts in_X9_comes_X9 hown hK hP 148 (wl_at (by decide) e55) rfl 28 (by decide) (hts (.fieldLink RX9 73 "EightReasonsModel" "pile" "[I") (List.mem_of_getElem? (i := 5) rfl)) (fun _ h9 => h9) rfl dX9_comes_107 ?_
            refine lv_iload_n hx hb dX9_comes_110 rfl (lv_at hl 0 rfl) ?_
            refine lv_iconst (v := 1) hx hb dX9_comes_111 (by decide) ?_
            refine lv_isub hx hb dX9_comes_112 ?_
            refine lv_topi (fun x88 ex88 => ?_)
            have hx88 := r_sub ex88 (by omega) (by omega)
            obtain ⟨g90, e89⟩ := (show okI cy 60 (f 168) from hT.1 168 (by decide))
            refine va_iald hx hb hK hP 168 0 (wl_at (by decide) e89) rfl (vp_in_iff.mpr ⟨by omega, by omega⟩) dX9_comes_113 ?_
            refine lv_topi (fun x91 ex91 => ?_)
            refine lv_aload_n hx hb dX9_comes_114 rfl (lv_at hl 3 rfl) ?_
            refine va_get (D := D) (cl := vwCl) (ci := 9) (v := .ref (ad 168)) (C := RX9) (T := TX9) (N := 64) hx hb hts in_X9_comes_X9 hown hK hP 148 (wl_at (by decide) e55) rfl 28 (by decide) (hts (.fieldLink RX9 73 "EightReasonsModel" "pile" "[I") (List.mem_of_getElem? (i := 5) rfl)) (fun _ h9 => h9) rfl dX9_comes_115 ?_
            refine lv_iload_n hx hb dX9_comes_118 rfl (lv_at hl 0 rfl) ?_
            refine va_iald hx hb hK hP 168 0 (wl_at (by decide) e89) rfl (vp_in_iff.mpr ⟨by omega, by omega⟩) dX9_comes_119 ?_
            refine lv_topi (fun x92 ex92 => ?_)
            refine tSI (As := [.int x64, .int x91, .int x92]) (rest := [.int x87, .ref (ad 168)]) ⟨hx, hb, hml, hown, hts⟩ hK hE hP hD hS hA hAB (s_X9_two_0 l B0 adK adV D cy ad f x64 x91 x92 _) (va_cwS 3 hts gX9_comes_X9_two rfl rfl rfl (by decide +kernel) ⟨Nat.le_of_ble_eq_true rfl, Nat.le_of_ble_eq_true rfl⟩) rfl hl.1 rfl (Nat.le_of_ble_eq_true rfl) dX9_comes_120 ⟨Nat.le_of_ble_eq_true rfl, Nat.le_of_ble_eq_true rfl⟩ (fun r g H locs hw hP hD hS => ?_)
            obtain ⟨hrs, rfl⟩ := hw
            obtain ⟨x93, rfl⟩ : ∃ q, q = r := ⟨_, rfl⟩
            have h94 := hrs
            refine va_iast hx hb hK hP hD hS 168 0 (wl_at (by decide) e89) rfl (vp_in_iff.mpr ⟨by omega, by omega⟩) dX9_comes_123 (fun H locs hP hD hS => ?_)
            obtain ⟨f, hT, hP, hD, e95, hj96⟩ := stU (by decide) (TYm.up hT (by decide) (show OKm ad cy c_text m_taped m_size m_faultKind m_faultPlace m_at m_end m_token m_number m_name c_points c_strands c_units c_told c_ruleFrom c_ruleTo c_code c_eWhat c_eSign m_bank m_rb m_codes m_within m_piled m_unitsInRule m_askStrand m_askTied m_thoughtClaim m_thoughtNeed m_thoughtAll c_roundOf m_acts m_undone m_laid m_firstMove m_seens m_time m_waysNow m_fitting 168 _ from (show okI cy 60 _ from ⟨_, rfl⟩))) hP hD
            have e97 := (hj96 148 (by decide)).trans e55
            have e98 := (hj96 162 (by decide)).trans e56
            have e99 := (hj96 164 (by decide)).trans e63
            exact j124 f H locs ls x86 x64 (by omega) (by omega) (by omega) (by omega) (by omega) hT hP hD hS (lv_sub hl [0, 1, 2, 3] rfl)
        · have kc65 := c_eq c65
          have ha100 : 1 ≤ v12_l1.toInt ∧ v12_l1.toInt ≤ 60 := by omega
          refine lv_aload_n hx hb dX9_comes_38 rfl (lv_at hl 3 rfl) ?_
          refine va_get (D := D) (cl := vwCl) (ci := 9) (v := .ref (ad 168)) (C := RX9) (T := TX9) (N := 64) hx hb hts in_X9_comes_X9 hown hK hP 148 (wl_at (by decide) e55) rfl 28 (by decide) (hts (.fieldLink RX9 73 "EightReasonsModel" "pile" "[I") (List.mem_of_getElem? (i := 5) rfl)) (fun _ h9 => h9) rfl dX9_comes_39 ?_
          refine lv_iload_n hx hb dX9_comes_42 rfl (lv_at hl 2 rfl) ?_
          refine lv_iconst (v := 1) hx hb dX9_comes_43 (by decide) ?_
          have ttl_1 := tl_1
          refine lv_isub hx hb dX9_comes_44 ?_
          refine lv_topi (fun x101 ex101 => ?_)
          have hx101 := r_sub ex101 (by omega) (by omega)
          refine lv_aload_n hx hb dX9_comes_45 rfl (lv_at hl 3 rfl) ?_
          refine va_get (D := D) (cl := vwCl) (ci := 9) (v := .ref (ad 168)) (C := RX9) (T := TX9) (N := 64) hx hb hts in_X9_comes_X9 hown hK hP 148 (wl_at (by decide) e55) rfl 28 (by decide) (hts (.fieldLink RX9 73 "EightReasonsModel" "pile" "[I") (List.mem_of_getElem? (i := 5) rfl)) (fun _ h9 => h9) rfl dX9_comes_46 ?_
          refine lv_iload_n hx hb dX9_comes_49 rfl (lv_at hl 2 rfl) ?_
          refine lv_iconst (v := 1) hx hb dX9_comes_50 (by decide) ?_
          refine lv_isub hx hb dX9_comes_51 ?_
          refine lv_topi (fun x102 ex102 => ?_)
          have hx102 := r_sub ex102 (by omega) (by omega)
          obtain ⟨g104, e103⟩ := (show okI cy 60 (f 168) from hT.1 168 (by decide))
          refine va_iald hx hb hK hP 168 0 (wl_at (by decide) e103) rfl (vp_in_iff.mpr ⟨by omega, by omega⟩) dX9_comes_52 ?_
          refine lv_topi (fun x105 ex105 => ?_)
          have ttl_0 := tl_0
          refine lv_if_ne (tgt := 60) hx hb dX9_comes_53 (by decide) (fun c106 => ?_) (fun c106 => ?_)
          · have kc106 := c_ne c106
            refine lv_iconst (v := 0) hx hb dX9_comes_60 (by decide) ?_
            exact j61 f H locs ls x64 x101 (0 : Int32) (by omega) (by omega) (by omega) (by omega) (by omega) (by omega) (by omega) (by omega) hT hP hD hS (lv_sub hl [0, 1, 2, 3] rfl)
          · have kc106 := c_eq c106
            refine lv_iconst (v := 1) hx hb dX9_comes_56 (by decide) ?_
            refine lv_goto (tgt := 61) hx hb dX9_comes_57 (by decide) ?_
            exact j61 f H locs ls x64 x101 (1 : Int32) (by omega) (by omega) (by omega) (by omega) (by omega) (by omega) (by omega) (by omega) hT hP hD hS (lv_sub hl [0, 1, 2, 3] rfl)
  have hor := okR_rng hOR
  refine lv_iconst (v := 0) hx hb dX9_comes_0 (by decide) ?_
  refine lv_istore_n (lv' := [(1, .int 0), (0, .ref (ad 148))]) hx hb dX9_comes_1 rfl hl (by decide) rfl (fun ls hl => ?_)
  refine lv_aload_n hx hb dX9_comes_2 rfl (lv_at hl 1 rfl) ?_
  obtain ⟨e122, h107, h108, h109, h110, h111, h112, h113, h114, h115, h116, h117, h118, h119, h120, h121⟩ := (show okX9 ad m_taped m_size m_faultKind m_faultPlace m_at m_end m_token m_number m_name m_bank m_rb m_codes m_within m_piled m_unitsInRule m_askStrand m_askTied m_thoughtClaim m_thoughtNeed m_thoughtAll m_acts m_undone m_laid m_firstMove m_seens m_time m_waysNow m_fitting 148 (f 148) from hT.1 148 (by decide))
  refine va_get (D := D) (cl := vwCl) (ci := 9) (v := .ref (ad 161)) (C := RX9) (T := TX9) (N := 64) hx hb hts in_X9_comes_X9 hown hK hP 148 (wl_at (by decide) e122) rfl 21 (by decide) (hts (.fieldLink RX9 51 "EightReasonsModel" "ruleFrom" "[I") (List.mem_of_getElem? (i := 1) rfl)) (fun _ h9 => h9) rfl dX9_comes_3 ?_
  refine lv_aload_n hx hb dX9_comes_6 rfl (lv_at hl 1 rfl) ?_
  refine va_get (D := D) (cl := vwCl) (ci := 9) (v := .int m_bank) (C := RX9) (T := TX9) (N := 64) hx hb hts in_X9_comes_X9 hown hK hP 148 (wl_at (by decide) e122) rfl 29 (by decide) (hts (.fieldLink RX9 239 "EightReasonsModel" "bank" "I") (List.mem_of_getElem? (i := 2) rfl)) (fun _ h9 => h9) rfl dX9_comes_7 ?_
  have e123 : f 161 = _ := (show okIp cy 2 c_ruleFrom (f 161) from hT.1 161 (by decide))
  refine va_iald hx hb hK hP 161 0 (wl_at (by decide) e123) rfl (vp_in_iff.mpr ⟨by omega, by omega⟩) dX9_comes_10 ?_
  refine lv_topi (fun x124 ex124 => ?_)
  have kx124 := congrArg Int32.toInt ex124
  have hd0 := dpZ_0 (cd := c_code) (a := (c_ruleFrom m_bank.toNatClampNeg)) (z := x124.toInt) (by omega)
  refine lv_istore_n (lv' := [(2, .int x124), (1, .int 0), (0, .ref (ad 148))]) hx hb dX9_comes_11 rfl hl (by decide) rfl (fun ls hl => ?_)
  have ttl_0 := tl_0
  exact j12 (Int.toNat (1121 - x124.toInt)) f H locs ls x124 (0 : Int32) (by omega) (by omega) (by omega) (by omega) (by omega) hT hP hD hS (lv_sub hl [0, 1, 2] rfl)
set_option maxHeartbeats 4000000 in
set_option maxRecDepth 100000 in
theorem s_X9_held_0 (l : Launch) (B0 : Nat) (adK adV : Nat → Nat) (D : va_G) (cy : Nat → ClassId) (ad : Nat → Nat) (f : Nat → va_E) (p0 : Int32) (p1 : Int32) (hp1 : 0 ≤ p1.toInt ∧ p1.toInt ≤ 0) (p2 : Int32) (hp2 : 1 ≤ p2.toInt ∧ p2.toInt ≤ 999) (sz : Nat) : TtI l yX9_held wsX9_held 0 0 [.int p0, .int p1, .int p2] B0 adK adV D cy ad f sz (fun (r : Int32) (g : Nat → va_E) => (0 ≤ r.toInt ∧ r.toInt ≤ 999) ∧ (f = g)) := by
  refine TtI.of (cc := cX9_held) (maxL := 3) (ty := .int) (own := RX9) (by decide) rfl (Nat.le_of_ble_eq_true rfl) rfl ?_
  intro p e s m below meth c A ls hx hb hr hml hts hown hlk hK hE hP hD hS hA hAB hl
  have hl : lv_has ls 3 [(0, .int p0), (1, .int p1), (2, .int p2)] := hl
  refine st0 (fun H locs hP hS => ?_) hP hS
  refine lv_iload_n hx hb dX9_held_0 rfl (lv_at hl 0 rfl) ?_
  refine lv_iload_n hx hb dX9_held_1 rfl (lv_at hl 1 rfl) ?_
  refine lv_icmp_ge (tgt := 9) hx hb dX9_held_2 (by decide) (fun c1 => ?_) (fun c1 => ?_)
  · have kc1 := c_le c1
    refine lv_iload_n hx hb dX9_held_9 rfl (lv_at hl 0 rfl) ?_
    refine lv_iload_n hx hb dX9_held_10 rfl (lv_at hl 2 rfl) ?_
    refine lv_icmp_le (tgt := 18) hx hb dX9_held_11 (by decide) (fun c2 => ?_) (fun c2 => ?_)
    · have kc2 := c_le c2
      refine lv_iload_n hx hb dX9_held_18 rfl (lv_at hl 0 rfl) ?_
      exact tI hx hb hr hlk rfl hP hS ⟨(by omega), rfl⟩ dX9_held_19
    · have kc2 := c_nle c2
      refine lv_iload_n hx hb dX9_held_14 rfl (lv_at hl 2 rfl) ?_
      refine lv_goto (tgt := 19) hx hb dX9_held_15 (by decide) ?_
      exact tI hx hb hr hlk rfl hP hS ⟨(by omega), rfl⟩ dX9_held_19
  · have kc1 := c_nle c1
    refine lv_iload_n hx hb dX9_held_5 rfl (lv_at hl 1 rfl) ?_
    refine lv_goto (tgt := 19) hx hb dX9_held_6 (by decide) ?_
    exact tI hx hb hr hlk rfl hP hS ⟨(by omega), rfl⟩ dX9_held_19
set_option maxHeartbeats 4000000 in
set_option maxRecDepth 100000 in
theorem s_X9_layWeights_0 (l : Launch) (B0 : Nat) (adK adV : Nat → Nat) (D : va_G) (cy : Nat → ClassId) (ad : Nat → Nat) (fr0 : Nat → va_E) (c_text : Nat → Int32) (m_taped : Int32) (m_size : Int32) (m_faultKind : Int32) (m_faultPlace : Int32) (m_at : Int32) (m_end : Int32) (m_token : Int32) (m_number : Int32) (m_name : Int64) (c_points : Nat → Int32) (c_strands : Nat → Int32) (c_units : Nat → Int32) (c_told : Nat → Int32) (c_ruleFrom : Nat → Int32) (c_ruleTo : Nat → Int32) (c_code : Nat → Int32) (c_eWhat : Nat → Int32) (c_eSign : Nat → Int32) (m_bank : Int32) (m_rb : Int32) (m_codes : Int32) (m_within : Int32) (m_piled : Int32) (m_unitsInRule : Int32) (m_askStrand : Int32) (m_askTied : Int32) (m_thoughtClaim : Int32) (m_thoughtNeed : Int32) (m_thoughtAll : Int32) (c_roundOf : Nat → Int32) (m_acts : Int32) (m_undone : Int32) (m_laid : Int32) (m_firstMove : Int32) (m_seens : Int32) (m_time : Int32) (m_waysNow : Int32) (m_fitting : Int32) (f : Nat → va_E) (hT : TYm ad cy fr0 c_text m_taped m_size m_faultKind m_faultPlace m_at m_end m_token m_number m_name c_points c_strands c_units c_told c_ruleFrom c_ruleTo c_code c_eWhat c_eSign m_bank m_rb m_codes m_within m_piled m_unitsInRule m_askStrand m_askTied m_thoughtClaim m_thoughtNeed m_thoughtAll c_roundOf m_acts m_undone m_laid m_firstMove m_seens m_time m_waysNow m_fitting f) (p1 : Int32) (hp1 : 0 ≤ p1.toInt ∧ p1.toInt ≤ 4095) (hCV : CVp c_told c_ruleFrom c_ruleTo c_code m_bank) (sz : Nat) : TtV l yX9_layWeights wsX9_layWeights 4 89 [.ref (ad 148), .int p1] B0 adK adV D cy ad f sz (fun (g : Nat → va_E) => True ∧ (∃ (m_askStrand' : Int32) (m_askTied' : Int32), TYm ad cy fr0 c_text m_taped m_size m_faultKind m_faultPlace m_at m_end m_token m_number m_name c_points c_strands c_units c_told c_ruleFrom c_ruleTo c_code c_eWhat c_eSign m_bank m_rb m_codes m_within m_piled m_unitsInRule m_askStrand' m_askTied' m_thoughtClaim m_thoughtNeed m_thoughtAll c_roundOf m_acts m_undone m_laid m_firstMove m_seens m_time m_waysNow m_fitting g ∧ (0 ≤ m_askTied'.toInt ∧ m_askTied'.toInt ≤ 4095))) := by
  refine TtV.of (cc := cX9_layWeights) (maxL := 4) (own := RX9) (by decide) rfl (Nat.le_of_ble_eq_true rfl) rfl ?_
  intro p e s m below meth c A ls hx hb hr hml hts hown hlk hK hE hP hD hS hA hAB hl
  have hl : lv_has ls 4 [(0, .ref (ad 148)), (1, .int p1)] := hl
  refine st0 (fun H locs hP hS => ?_) hP hS
  have j7 : ∀ (N : Nat) (f : Nat → va_E) (H : Heap) (locs : List Loc) (ls : Array Slot) (v7_l2 : Int32) (v7_p_m_askStrand : Int32), (13 - v7_l2.toInt ≤ (N : Int)) → (0 ≤ v7_l2.toInt ∧ v7_l2.toInt ≤ 12) → (0 ≤ p1.toInt ∧ p1.toInt ≤ 4095) → (0 ≤ p1.toInt ∧ p1.toInt ≤ 4095) → (TYm ad cy fr0 c_text m_taped m_size m_faultKind m_faultPlace m_at m_end m_token m_number m_name c_points c_strands c_units c_told c_ruleFrom c_ruleTo c_code c_eWhat c_eSign m_bank m_rb m_codes m_within m_piled m_unitsInRule v7_p_m_askStrand p1 m_thoughtClaim m_thoughtNeed m_thoughtAll c_roundOf m_acts m_undone m_laid m_firstMove m_seens m_time m_waysNow m_fitting f) → (va_P D vwCl (wl ad f) H) → (va_D A (wl ad f)) → (va_S A s.heap H locs) → (lv_has ls 4 [(2, .int v7_l2), (0, .ref (ad 148)), (1, .int p1)]) → W p l e (rmO 4 89 0 0) s m ([.ref (ad 148), .int p1] : List Value).toArray below meth c H locs 0 0 (MQ below (va_Qv (fun (g : Nat → va_E) => True ∧ (∃ (m_askStrand' : Int32) (m_askTied' : Int32), TYm ad cy fr0 c_text m_taped m_size m_faultKind m_faultPlace m_at m_end m_token m_number m_name c_points c_strands c_units c_told c_ruleFrom c_ruleTo c_code c_eWhat c_eSign m_bank m_rb m_codes m_within m_piled m_unitsInRule m_askStrand' m_askTied' m_thoughtClaim m_thoughtNeed m_thoughtAll c_roundOf m_acts m_undone m_laid m_firstMove m_seens m_time m_waysNow m_fitting g ∧ (0 ≤ m_askTied'.toInt ∧ m_askTied'.toInt ≤ 4095))) (fun g t => PstT D ad g t) A) ([.ref (ad 148), .int p1] : List Value).toArray s 0 0 A) (F0 m 7 ls []) := by
    intro N
    induction N with
    | zero => intro f H locs ls v7_l2 v7_p_m_askStrand hN hv7_l2 hv7_l1 hv7_p_m_askTied hT hP hD hS hl; exact absurd hN (by omega)
    | succ N ih7 =>
      intro f H locs ls v7_l2 v7_p_m_askStrand hN hv7_l2 hv7_l1 hv7_p_m_askTied hT hP hD hS hl
      have j96 : ∀ (f : Nat → va_E) (H : Heap) (locs : List Loc) (ls : Array Slot) (v96_l3 : Int32) (v96_s2 : Int32), (0 ≤ v96_l3.toInt ∧ v96_l3.toInt ≤ 1) → (0 ≤ v7_l2.toInt ∧ v7_l2.toInt ≤ 11) → (0 ≤ p1.toInt ∧ p1.toInt ≤ 4095) → (0 ≤ v7_l2.toInt ∧ v7_l2.toInt ≤ 11) → (0 ≤ p1.toInt ∧ p1.toInt ≤ 4095) → (TYm ad cy fr0 c_text m_taped m_size m_faultKind m_faultPlace m_at m_end m_token m_number m_name c_points c_strands c_units c_told c_ruleFrom c_ruleTo c_code c_eWhat c_eSign m_bank m_rb m_codes m_within m_piled m_unitsInRule v7_l2 p1 m_thoughtClaim m_thoughtNeed m_thoughtAll c_roundOf m_acts m_undone m_laid m_firstMove m_seens m_time m_waysNow m_fitting f) → (va_P D vwCl (wl ad f) H) → (va_D A (wl ad f)) → (va_S A s.heap H locs) → (lv_has ls 4 [(3, .int v96_l3), (2, .int v7_l2), (0, .ref (ad 148)), (1, .int p1)]) → W p l e (rmO 4 89 0 0) s m ([.ref (ad 148), .int p1] : List Value).toArray below meth c H locs 0 0 (MQ below (va_Qv (fun (g : Nat → va_E) => True ∧ (∃ (m_askStrand' : Int32) (m_askTied' : Int32), TYm ad cy fr0 c_text m_taped m_size m_faultKind m_faultPlace m_at m_end m_token m_number m_name c_points c_strands c_units c_told c_ruleFrom c_ruleTo c_code c_eWhat c_eSign m_bank m_rb m_codes m_within m_piled m_unitsInRule m_askStrand' m_askTied' m_thoughtClaim m_thoughtNeed m_thoughtAll c_roundOf m_acts m_undone m_laid m_firstMove m_seens m_time m_waysNow m_fitting g ∧ (0 ≤ m_askTied'.toInt ∧ m_askTied'.toInt ≤ 4095))) (fun g t => PstT D ad g t) A) ([.ref (ad 148), .int p1] : List Value).toArray s 0 0 A) (F0 m 96 ls [.int v96_s2, .int v7_l2, .ref (ad 171)]) := by
        intro f H locs ls v96_l3 v96_s2 hv96_l3 hv96_l2 hv96_l1 hv96_s1 hv96_p_m_askTied hT hP hD hS hl
        obtain ⟨g2, e1⟩ := (show okI cy 12 (f 171) from hT.1 171 (by decide))
        refine va_iast hx hb hK hP hD hS 171 0 (wl_at (by decide) e1) rfl (vp_in_iff.mpr ⟨by omega, by omega⟩) dX9_layWeights_96 (fun H locs hP hD hS => ?_)
        obtain ⟨f, hT, hP, hD, e3, hj4⟩ := stU (by decide) (TYm.up hT (by decide) (show OKm ad cy c_text m_taped m_size m_faultKind m_faultPlace m_at m_end m_token m_number m_name c_points c_strands c_units c_told c_ruleFrom c_ruleTo c_code c_eWhat c_eSign m_bank m_rb m_codes m_within m_piled m_unitsInRule v7_l2 p1 m_thoughtClaim m_thoughtNeed m_thoughtAll c_roundOf m_acts m_undone m_laid m_firstMove m_seens m_time m_waysNow m_fitting 171 _ from (show okI cy 12 _ from ⟨_, rfl⟩))) hP hD
        obtain ⟨x5, ex5⟩ : ∃ q : Int32, q = v7_l2 + Int32.ofInt (1) := ⟨_, rfl⟩
        refine lv_iinc (v := x5) (lv' := [(2, .int x5), (3, .int v96_l3), (0, .ref (ad 148)), (1, .int p1)]) hx hb dX9_layWeights_97 hl (k := 1) rfl ex5.symm (by decide) rfl (fun ls hl => ?_)
        have hx5 := r_inc ex5 (by decide) (by omega) (by omega)
        refine lv_goto (tgt := 7) hx hb dX9_layWeights_100 (by decide) ?_
        exact ih7 f H locs ls x5 v7_l2 (by omega) (by omega) (by omega) (by omega) hT hP hD hS (lv_sub hl [0, 2, 3] rfl)
      have j44 : ∀ (f : Nat → va_E) (H : Heap) (locs : List Loc) (ls : Array Slot) (v44_s0 : Int32), (0 ≤ v7_l2.toInt ∧ v7_l2.toInt ≤ 11) → (0 ≤ p1.toInt ∧ p1.toInt ≤ 4095) → (0 ≤ v44_s0.toInt ∧ v44_s0.toInt ≤ 1) → (0 ≤ p1.toInt ∧ p1.toInt ≤ 4095) → (TYm ad cy fr0 c_text m_taped m_size m_faultKind m_faultPlace m_at m_end m_token m_number m_name c_points c_strands c_units c_told c_ruleFrom c_ruleTo c_code c_eWhat c_eSign m_bank m_rb m_codes m_within m_piled m_unitsInRule v7_l2 p1 m_thoughtClaim m_thoughtNeed m_thoughtAll c_roundOf m_acts m_undone m_laid m_firstMove m_seens m_time m_waysNow m_fitting f) → (va_P D vwCl (wl ad f) H) → (va_D A (wl ad f)) → (va_S A s.heap H locs) → (lv_has ls 4 [(2, .int v7_l2), (0, .ref (ad 148)), (1, .int p1)]) → W p l e (rmO 4 89 0 0) s m ([.ref (ad 148), .int p1] : List Value).toArray below meth c H locs 0 0 (MQ below (va_Qv (fun (g : Nat → va_E) => True ∧ (∃ (m_askStrand' : Int32) (m_askTied' : Int32), TYm ad cy fr0 c_text m_taped m_size m_faultKind m_faultPlace m_at m_end m_token m_number m_name c_points c_strands c_units c_told c_ruleFrom c_ruleTo c_code c_eWhat c_eSign m_bank m_rb m_codes m_within m_piled m_unitsInRule m_askStrand' m_askTied' m_thoughtClaim m_thoughtNeed m_thoughtAll c_roundOf m_acts m_undone m_laid m_firstMove m_seens m_time m_waysNow m_fitting g ∧ (0 ≤ m_askTied'.toInt ∧ m_askTied'.toInt ≤ 4095))) (fun g t => PstT D ad g t) A) ([.ref (ad 148), .int p1] : List Value).toArray s 0 0 A) (F0 m 44 ls [.int v44_s0]) := by
        intro f H locs ls v44_s0 hv44_l2 hv44_l1 hv44_s0 hv44_p_m_askTied hT hP hD hS hl
        refine lv_istore_n (lv' := [(3, .int v44_s0), (2, .int v7_l2), (0, .ref (ad 148)), (1, .int p1)]) hx hb dX9_layWeights_44 rfl hl (by decide) rfl (fun ls hl => ?_)
        refine lv_aload_n hx hb dX9_layWeights_45 rfl (lv_at hl 2 rfl) ?_
        obtain ⟨e21, h6, h7, h8, h9, h10, h11, h12, h13, h14, h15, h16, h17, h18, h19, h20⟩ := (show okX9 ad m_taped m_size m_faultKind m_faultPlace m_at m_end m_token m_number m_name m_bank m_rb m_codes m_within m_piled m_unitsInRule v7_l2 p1 m_thoughtClaim m_thoughtNeed m_thoughtAll m_acts m_undone m_laid m_firstMove m_seens m_time m_waysNow m_fitting 148 (f 148) from hT.1 148 (by decide))
        refine va_get (D := D) (cl := vwCl) (ci := 9) (v := .ref (ad 171)) (C := RX9) (T := TX9) (N := 64) hx hb hts in_X9_layWeights_X9 hown hK hP 148 (wl_at (by decide) e21) rfl 42 (by decide) (hts (.fieldLink RX9 88 "EightReasonsModel" "weightOf" "[I") (List.mem_of_getElem? (i := 4) rfl)) (fun _ h9 => h9) rfl dX9_layWeights_46 ?_
        refine lv_iload_n hx hb dX9_layWeights_49 rfl (lv_at hl 1 rfl) ?_
        refine lv_iload_n hx hb dX9_layWeights_50 rfl (lv_at hl 0 rfl) ?_
        have ttl_0 := tl_0
        refine lv_if_ne (tgt := 58) hx hb dX9_layWeights_51 (by decide) (fun c22 => ?_) (fun c22 => ?_)
        · have kc22 := c_ne c22
          refine lv_aload_n hx hb dX9_layWeights_58 rfl (lv_at hl 2 rfl) ?_
          refine va_get (D := D) (cl := vwCl) (ci := 9) (v := .ref (ad 156)) (C := RX9) (T := TX9) (N := 64) hx hb hts in_X9_layWeights_X9 hown hK hP 148 (wl_at (by decide) e21) rfl 16 (by decide) (hts (.fieldLink RX9 36 "EightReasonsModel" "told" "[I") (List.mem_of_getElem? (i := 5) rfl)) (fun _ h9 => h9) rfl dX9_layWeights_59 ?_
          refine lv_aload_n hx hb dX9_layWeights_62 rfl (lv_at hl 2 rfl) ?_
          refine va_get (D := D) (cl := vwCl) (ci := 9) (v := .int m_bank) (C := RX9) (T := TX9) (N := 64) hx hb hts in_X9_layWeights_X9 hown hK hP 148 (wl_at (by decide) e21) rfl 29 (by decide) (hts (.fieldLink RX9 239 "EightReasonsModel" "bank" "I") (List.mem_of_getElem? (i := 6) rfl)) (fun _ h9 => h9) rfl dX9_layWeights_63 ?_
          have e23 : f 156 = _ := (show okIp cy 2 c_told (f 156) from hT.1 156 (by decide))
          refine va_iald hx hb hK hP 156 0 (wl_at (by decide) e23) rfl (vp_in_iff.mpr ⟨by omega, by omega⟩) dX9_layWeights_66 ?_
          refine lv_topi (fun x24 ex24 => ?_)
          have kx24 := congrArg Int32.toInt ex24
          refine lv_iconst (v := 0) hx hb dX9_layWeights_67 (by decide) ?_
          refine tSI (As := [.int x24, .int 0]) (rest := [.int v7_l2, .ref (ad 171)]) ⟨hx, hb, hml, hown, hts⟩ hK hE hP hD hS hA hAB (s_X9_bit_0 l B0 adK adV D cy ad f x24 (0 : Int32) (by omega) _) (va_cwS 2 hts gX9_layWeights_X9_bit rfl rfl rfl (by decide +kernel) ⟨Nat.le_of_ble_eq_true rfl, Nat.le_of_ble_eq_true rfl⟩) rfl hl.1 rfl (Nat.le_of_ble_eq_true rfl) dX9_layWeights_68 ⟨Nat.le_of_ble_eq_true rfl, Nat.le_of_ble_eq_true rfl⟩ (fun r g H locs hw hP hD hS => ?_)
          obtain ⟨hrs, rfl⟩ := hw
          obtain ⟨x25, rfl⟩ : ∃ q, q = r := ⟨_, rfl⟩
          rcases hrs with ⟨rfl, h26⟩ | ⟨rfl, h27⟩
          · refine lv_if_eq (tgt := 88) hx hb dX9_layWeights_71 (by decide) (fun c => absurd c (by decide)) (fun _ => ?_)
            refine lv_aload_n hx hb dX9_layWeights_74 rfl (lv_at hl 2 rfl) ?_
            refine tVI (As := []) (rest := [.int v7_l2, .ref (ad 171)]) (i := 148) ⟨hx, hb, hml, hown, hts⟩ hK hE hP hD hS hA hAB (s_X9_comes_0 l B0 adK adV D cy ad fr0 c_text m_taped m_size m_faultKind m_faultPlace m_at m_end m_token m_number m_name c_points c_strands c_units c_told c_ruleFrom c_ruleTo c_code c_eWhat c_eSign m_bank m_rb m_codes m_within m_piled m_unitsInRule v7_l2 p1 m_thoughtClaim m_thoughtNeed m_thoughtAll c_roundOf m_acts m_undone m_laid m_firstMove m_seens m_time m_waysNow m_fitting f hT (hCV (bit_tr (by assumption) (by assumption))) _) (cwV 0 hts gX9_layWeights_X9_comes rfl rfl rfl (by decide +kernel) ⟨Nat.le_of_ble_eq_true rfl, Nat.le_of_ble_eq_true rfl⟩) (by decide) 9 e21 rfl rfl hl.1 rfl (Nat.le_of_ble_eq_true rfl) dX9_layWeights_75 ⟨Nat.le_of_ble_eq_true rfl, Nat.le_of_ble_eq_true rfl⟩ (fun r f H locs hw hP hD hS => ?_)
            obtain ⟨hrs, hT⟩ := hw
            obtain ⟨x28, rfl⟩ : ∃ q, q = r := ⟨_, rfl⟩
            have h29 := hrs
            refine lv_iconst (v := 0) hx hb dX9_layWeights_78 (by decide) ?_
            refine lv_sipush (v := 999) hx hb dX9_layWeights_79 (by decide) ?_
            have ttl_999 := tl_999
            refine tSI (As := [.int x28, .int 0, .int 999]) (rest := [.int v7_l2, .ref (ad 171)]) ⟨hx, hb, hml, hown, hts⟩ hK hE hP hD hS hA hAB (s_X9_held_0 l B0 adK adV D cy ad f x28 (0 : Int32) (by omega) (999 : Int32) (by omega) _) (va_cwS 3 hts gX9_layWeights_X9_held rfl rfl rfl (by decide +kernel) ⟨Nat.le_of_ble_eq_true rfl, Nat.le_of_ble_eq_true rfl⟩) rfl hl.1 rfl (Nat.le_of_ble_eq_true rfl) dX9_layWeights_82 ⟨Nat.le_of_ble_eq_true rfl, Nat.le_of_ble_eq_true rfl⟩ (fun r g H locs hw hP hD hS => ?_)
            obtain ⟨hrs, rfl⟩ := hw
            obtain ⟨x30, rfl⟩ : ∃ q, q = r := ⟨_, rfl⟩
            have h31 := hrs
            refine lv_goto (tgt := 96) hx hb dX9_layWeights_85 (by decide) ?_
            exact j96 f H locs ls v44_s0 x30 (by omega) (by omega) (by omega) (by omega) (by omega) hT hP hD hS (lv_sub hl [0, 1, 2, 3] rfl)
          · refine lv_if_eq (tgt := 88) hx hb dX9_layWeights_71 (by decide) (fun _ => ?_) (fun c => absurd (by decide) c)
            refine lv_aload_n hx hb dX9_layWeights_88 rfl (lv_at hl 2 rfl) ?_
            refine va_get (D := D) (cl := vwCl) (ci := 9) (v := .ref (ad 169)) (C := RX9) (T := TX9) (N := 64) hx hb hts in_X9_layWeights_X9 hown hK hP 148 (wl_at (by decide) e21) rfl 37 (by decide) (hts (.fieldLink RX9 76 "EightReasonsModel" "all" "[I") (List.mem_of_getElem? (i := 3) rfl)) (fun _ h9 => h9) rfl dX9_layWeights_89 ?_
            refine lv_iconst (v := 2) hx hb dX9_layWeights_92 (by decide) ?_
            refine lv_iload_n hx hb dX9_layWeights_93 rfl (lv_at hl 1 rfl) ?_
            have ttl_2 := tl_2
            refine lv_iadd hx hb dX9_layWeights_94 ?_
            refine lv_topi (fun x32 ex32 => ?_)
            have hx32 := r_add ex32 (by omega) (by omega)
            obtain ⟨g35, e33, h34⟩ := (show okIr cy 16 (0) (4095) 16 1 (f 169) from hT.1 169 (by decide))
            have hc36 := clampZ (x := x32) (by omega)
            refine va_iald hx hb hK hP 169 0 (wl_at (by decide) e33) rfl (vp_in_iff.mpr ⟨by omega, by omega⟩) dX9_layWeights_95 ?_
            refine lv_topi (fun x37 ex37 => ?_)
            have hx37 := r_elc (h34 _) ex37
            exact j96 f H locs ls v44_s0 x37 (by omega) (by omega) (by omega) (by omega) (by omega) hT hP hD hS (lv_sub hl [0, 1, 2, 3] rfl)
        · have kc22 := c_eq c22
          refine lv_iconst (v := 0) hx hb dX9_layWeights_54 (by decide) ?_
          refine lv_goto (tgt := 96) hx hb dX9_layWeights_55 (by decide) ?_
          exact j96 f H locs ls v44_s0 (0 : Int32) (by omega) (by omega) (by omega) (by omega) (by omega) hT hP hD hS (lv_sub hl [0, 1, 2, 3] rfl)
      have j43 : ∀ (f : Nat → va_E) (H : Heap) (locs : List Loc) (ls : Array Slot), (0 ≤ v7_l2.toInt ∧ v7_l2.toInt ≤ 11) → (0 ≤ p1.toInt ∧ p1.toInt ≤ 4095) → (0 ≤ p1.toInt ∧ p1.toInt ≤ 4095) → (TYm ad cy fr0 c_text m_taped m_size m_faultKind m_faultPlace m_at m_end m_token m_number m_name c_points c_strands c_units c_told c_ruleFrom c_ruleTo c_code c_eWhat c_eSign m_bank m_rb m_codes m_within m_piled m_unitsInRule v7_l2 p1 m_thoughtClaim m_thoughtNeed m_thoughtAll c_roundOf m_acts m_undone m_laid m_firstMove m_seens m_time m_waysNow m_fitting f) → (va_P D vwCl (wl ad f) H) → (va_D A (wl ad f)) → (va_S A s.heap H locs) → (lv_has ls 4 [(2, .int v7_l2), (0, .ref (ad 148)), (1, .int p1)]) → W p l e (rmO 4 89 0 0) s m ([.ref (ad 148), .int p1] : List Value).toArray below meth c H locs 0 0 (MQ below (va_Qv (fun (g : Nat → va_E) => True ∧ (∃ (m_askStrand' : Int32) (m_askTied' : Int32), TYm ad cy fr0 c_text m_taped m_size m_faultKind m_faultPlace m_at m_end m_token m_number m_name c_points c_strands c_units c_told c_ruleFrom c_ruleTo c_code c_eWhat c_eSign m_bank m_rb m_codes m_within m_piled m_unitsInRule m_askStrand' m_askTied' m_thoughtClaim m_thoughtNeed m_thoughtAll c_roundOf m_acts m_undone m_laid m_firstMove m_seens m_time m_waysNow m_fitting g ∧ (0 ≤ m_askTied'.toInt ∧ m_askTied'.toInt ≤ 4095))) (fun g t => PstT D ad g t) A) ([.ref (ad 148), .int p1] : List Value).toArray s 0 0 A) (F0 m 43 ls []) := by
        intro f H locs ls hv43_l2 hv43_l1 hv43_p_m_askTied hT hP hD hS hl
        refine lv_iconst (v := 0) hx hb dX9_layWeights_43 (by decide) ?_
        have ttl_0 := tl_0
        exact j44 f H locs ls (0 : Int32) (by omega) (by omega) (by omega) (by omega) hT hP hD hS (lv_sub hl [0, 1, 2] rfl)
      refine lv_iload_n hx hb dX9_layWeights_7 rfl (lv_at hl 0 rfl) ?_
      refine lv_aload_n hx hb dX9_layWeights_8 rfl (lv_at hl 1 rfl) ?_
      obtain ⟨e53, h38, h39, h40, h41, h42, h43, h44, h45, h46, h47, h48, h49, h50, h51, h52⟩ := (show okX9 ad m_taped m_size m_faultKind m_faultPlace m_at m_end m_token m_number m_name m_bank m_rb m_codes m_within m_piled m_unitsInRule v7_p_m_askStrand p1 m_thoughtClaim m_thoughtNeed m_thoughtAll m_acts m_undone m_laid m_firstMove m_seens m_time m_waysNow m_fitting 148 (f 148) from hT.1 148 (by decide))
      refine tVI (As := []) (rest := [.int v7_l2]) (i := 148) ⟨hx, hb, hml, hown, hts⟩ hK hE hP hD hS hA hAB (s_X9_threads_0 l B0 adK adV D cy ad fr0 c_text m_taped m_size m_faultKind m_faultPlace m_at m_end m_token m_number m_name c_points c_strands c_units c_told c_ruleFrom c_ruleTo c_code c_eWhat c_eSign m_bank m_rb m_codes m_within m_piled m_unitsInRule v7_p_m_askStrand p1 m_thoughtClaim m_thoughtNeed m_thoughtAll c_roundOf m_acts m_undone m_laid m_firstMove m_seens m_time m_waysNow m_fitting f hT _) (cwV 0 hts gX9_layWeights_X9_threads rfl rfl rfl (by decide +kernel) ⟨Nat.le_of_ble_eq_true rfl, Nat.le_of_ble_eq_true rfl⟩) (by decide) 9 e53 rfl rfl hl.1 rfl (Nat.le_of_ble_eq_true rfl) dX9_layWeights_9 ⟨Nat.le_of_ble_eq_true rfl, Nat.le_of_ble_eq_true rfl⟩ (fun r g H locs hw hP hD hS => ?_)
      obtain ⟨hrs, rfl⟩ := hw
      obtain ⟨x54, rfl⟩ : ∃ q, q = r := ⟨_, rfl⟩
      have h55 := hrs
      refine lv_icmp_ge (tgt := 103) hx hb dX9_layWeights_12 (by decide) (fun c56 => ?_) (fun c56 => ?_)
      · have kc56 := c_le c56
        exact tV hx hb hr hlk hP hS ⟨trivial, ⟨v7_p_m_askStrand, p1, hT, by omega⟩⟩ dX9_layWeights_103
      · have kc56 := c_nle c56
        refine lv_aload_n hx hb dX9_layWeights_15 rfl (lv_at hl 1 rfl) ?_
        refine lv_iload_n hx hb dX9_layWeights_16 rfl (lv_at hl 0 rfl) ?_
        refine va_put (D := D) (cl := vwCl) (ci := 9) (v := .int v7_l2) (ty := tyX9 35) (C := RX9) (T := TX9) (N := 64) hx hb hts in_X9_layWeights_X9 tyX9 tyX9_ok nmX9 hown hK hP hD hS 148 (wl_at (by decide) e53) rfl 35 (by decide) (hts (.fieldLink RX9 312 "EightReasonsModel" "askStrand" "I") (List.mem_of_getElem? (i := 2) rfl)) (fun _ h9 => h9) rfl (tyX9_ok 35 (by decide)) rfl rfl (Nat.le_of_ble_eq_true rfl) dX9_layWeights_17 (fun H locs hP hD hS => ?_)
        obtain ⟨f, hT, hP, hD, e57, hj58⟩ := stU (by decide) (TYm.p148 hT (show OKm ad cy c_text m_taped m_size m_faultKind m_faultPlace m_at m_end m_token m_number m_name c_points c_strands c_units c_told c_ruleFrom c_ruleTo c_code c_eWhat c_eSign m_bank m_rb m_codes m_within m_piled m_unitsInRule v7_l2 p1 m_thoughtClaim m_thoughtNeed m_thoughtAll c_roundOf m_acts m_undone m_laid m_firstMove m_seens m_time m_waysNow m_fitting 148 _ from (show okX9 ad m_taped m_size m_faultKind m_faultPlace m_at m_end m_token m_number m_name m_bank m_rb m_codes m_within m_piled m_unitsInRule v7_l2 p1 m_thoughtClaim m_thoughtNeed m_thoughtAll m_acts m_undone m_laid m_firstMove m_seens m_time m_waysNow m_fitting 148 _ from ⟨rfl, by omega, by omega, by omega, by omega, by omega, by omega, by omega, by omega, by omega, by omega, by omega, by omega, by omega, by omega, by omega⟩))) hP hD
        refine lv_iload_n hx hb dX9_layWeights_20 rfl (lv_at hl 2 rfl) ?_
        refine lv_iload_n hx hb dX9_layWeights_21 rfl (lv_at hl 0 rfl) ?_
        refine tSI (As := [.int p1, .int v7_l2]) (rest := []) ⟨hx, hb, hml, hown, hts⟩ hK hE hP hD hS hA hAB (s_X9_bit_0 l B0 adK adV D cy ad f p1 v7_l2 (by omega) _) (va_cwS 2 hts gX9_layWeights_X9_bit rfl rfl rfl (by decide +kernel) ⟨Nat.le_of_ble_eq_true rfl, Nat.le_of_ble_eq_true rfl⟩) rfl hl.1 rfl (Nat.le_of_ble_eq_true rfl) dX9_layWeights_22 ⟨Nat.le_of_ble_eq_true rfl, Nat.le_of_ble_eq_true rfl⟩ (fun r g H locs hw hP hD hS => ?_)
        obtain ⟨hrs, rfl⟩ := hw
        obtain ⟨x59, rfl⟩ : ∃ q, q = r := ⟨_, rfl⟩
        rcases hrs with ⟨rfl, h60⟩ | ⟨rfl, h61⟩
        · refine lv_if_eq (tgt := 43) hx hb dX9_layWeights_25 (by decide) (fun c => absurd c (by decide)) (fun _ => ?_)
          refine lv_aload_n hx hb dX9_layWeights_28 rfl (lv_at hl 1 rfl) ?_
          refine va_get (D := D) (cl := vwCl) (ci := 9) (v := .ref (ad 169)) (C := RX9) (T := TX9) (N := 64) hx hb hts in_X9_layWeights_X9 hown hK hP 148 (wl_at (by decide) e57) rfl 37 (by decide) (hts (.fieldLink RX9 76 "EightReasonsModel" "all" "[I") (List.mem_of_getElem? (i := 3) rfl)) (fun _ h9 => h9) rfl dX9_layWeights_29 ?_
          refine lv_iconst (v := 2) hx hb dX9_layWeights_32 (by decide) ?_
          refine lv_iload_n hx hb dX9_layWeights_33 rfl (lv_at hl 0 rfl) ?_
          have ttl_2 := tl_2
          refine lv_iadd hx hb dX9_layWeights_34 ?_
          refine lv_topi (fun x62 ex62 => ?_)
          have hx62 := r_add ex62 (by omega) (by omega)
          obtain ⟨g65, e63, h64⟩ := (show okIr cy 16 (0) (4095) 16 1 (f 169) from hT.1 169 (by decide))
          have hc66 := clampZ (x := x62) (by omega)
          refine va_iald hx hb hK hP 169 0 (wl_at (by decide) e63) rfl (vp_in_iff.mpr ⟨by omega, by omega⟩) dX9_layWeights_35 ?_
          refine lv_topi (fun x67 ex67 => ?_)
          have hx67 := r_elc (h64 _) ex67
          have ttl_0 := tl_0
          refine lv_if_le (tgt := 43) hx hb dX9_layWeights_36 (by decide) (fun c68 => ?_) (fun c68 => ?_)
          · have kc68 := c_le c68
            exact j43 f H locs ls (by omega) (by omega) (by omega) hT hP hD hS (lv_sub hl [0, 1, 2] rfl)
          · have kc68 := c_nle c68
            refine lv_iconst (v := 1) hx hb dX9_layWeights_39 (by decide) ?_
            refine lv_goto (tgt := 44) hx hb dX9_layWeights_40 (by decide) ?_
            have ttl_1 := tl_1
            exact j44 f H locs ls (1 : Int32) (by omega) (by omega) (by omega) (by omega) hT hP hD hS (lv_sub hl [0, 1, 2] rfl)
        · refine lv_if_eq (tgt := 43) hx hb dX9_layWeights_25 (by decide) (fun _ => ?_) (fun c => absurd (by decide) c)
          exact j43 f H locs ls (by omega) (by omega) (by omega) hT hP hD hS (lv_sub hl [0, 1, 2] rfl)
  refine lv_aload_n hx hb dX9_layWeights_0 rfl (lv_at hl 0 rfl) ?_
  refine lv_iload_n hx hb dX9_layWeights_1 rfl (lv_at hl 1 rfl) ?_
  obtain ⟨e84, h69, h70, h71, h72, h73, h74, h75, h76, h77, h78, h79, h80, h81, h82, h83⟩ := (show okX9 ad m_taped m_size m_faultKind m_faultPlace m_at m_end m_token m_number m_name m_bank m_rb m_codes m_within m_piled m_unitsInRule m_askStrand m_askTied m_thoughtClaim m_thoughtNeed m_thoughtAll m_acts m_undone m_laid m_firstMove m_seens m_time m_waysNow m_fitting 148 (f 148) from hT.1 148 (by decide))
  refine va_put (D := D) (cl := vwCl) (ci := 9) (v := .int p1) (ty := tyX9 36) (C := RX9) (T := TX9) (N := 64) hx hb hts in_X9_layWeights_X9 tyX9 tyX9_ok nmX9 hown hK hP hD hS 148 (wl_at (by decide) e84) rfl 36 (by decide) (hts (.fieldLink RX9 321 "EightReasonsModel" "askTied" "I") (List.mem_of_getElem? (i := 1) rfl)) (fun _ h9 => h9) rfl (tyX9_ok 36 (by decide)) rfl rfl (Nat.le_of_ble_eq_true rfl) dX9_layWeights_2 (fun H locs hP hD hS => ?_)
  obtain ⟨f, hT, hP, hD, e85, hj86⟩ := stU (by decide) (TYm.p148 hT (show OKm ad cy c_text m_taped m_size m_faultKind m_faultPlace m_at m_end m_token m_number m_name c_points c_strands c_units c_told c_ruleFrom c_ruleTo c_code c_eWhat c_eSign m_bank m_rb m_codes m_within m_piled m_unitsInRule m_askStrand p1 m_thoughtClaim m_thoughtNeed m_thoughtAll c_roundOf m_acts m_undone m_laid m_firstMove m_seens m_time m_waysNow m_fitting 148 _ from (show okX9 ad m_taped m_size m_faultKind m_faultPlace m_at m_end m_token m_number m_name m_bank m_rb m_codes m_within m_piled m_unitsInRule m_askStrand p1 m_thoughtClaim m_thoughtNeed m_thoughtAll m_acts m_undone m_laid m_firstMove m_seens m_time m_waysNow m_fitting 148 _ from ⟨rfl, by omega, by omega, by omega, by omega, by omega, by omega, by omega, by omega, by omega, by omega, by omega, by omega, by omega, by omega, by omega⟩))) hP hD
  refine lv_iconst (v := 0) hx hb dX9_layWeights_5 (by decide) ?_
  refine lv_istore_n (lv' := [(2, .int 0), (0, .ref (ad 148)), (1, .int p1)]) hx hb dX9_layWeights_6 rfl hl (by decide) rfl (fun ls hl => ?_)
  have ttl_0 := tl_0
  exact j7 (Int.toNat (13 - (0 : Int32).toInt)) f H locs ls (0 : Int32) m_askStrand (by omega) (by omega) (by omega) (by omega) hT hP hD hS (lv_sub hl [0, 1, 2] rfl)
set_option maxHeartbeats 4000000 in
set_option maxRecDepth 100000 in
theorem s_X9_strand_0 (l : Launch) (B0 : Nat) (adK adV : Nat → Nat) (D : va_G) (cy : Nat → ClassId) (ad : Nat → Nat) (fr0 : Nat → va_E) (c_text : Nat → Int32) (m_taped : Int32) (m_size : Int32) (m_faultKind : Int32) (m_faultPlace : Int32) (m_at : Int32) (m_end : Int32) (m_token : Int32) (m_number : Int32) (m_name : Int64) (c_points : Nat → Int32) (c_strands : Nat → Int32) (c_units : Nat → Int32) (c_told : Nat → Int32) (c_ruleFrom : Nat → Int32) (c_ruleTo : Nat → Int32) (c_code : Nat → Int32) (c_eWhat : Nat → Int32) (c_eSign : Nat → Int32) (m_bank : Int32) (m_rb : Int32) (m_codes : Int32) (m_within : Int32) (m_piled : Int32) (m_unitsInRule : Int32) (m_askStrand : Int32) (m_askTied : Int32) (m_thoughtClaim : Int32) (m_thoughtNeed : Int32) (m_thoughtAll : Int32) (c_roundOf : Nat → Int32) (m_acts : Int32) (m_undone : Int32) (m_laid : Int32) (m_firstMove : Int32) (m_seens : Int32) (m_time : Int32) (m_waysNow : Int32) (m_fitting : Int32) (f : Nat → va_E) (hT : TYm ad cy fr0 c_text m_taped m_size m_faultKind m_faultPlace m_at m_end m_token m_number m_name c_points c_strands c_units c_told c_ruleFrom c_ruleTo c_code c_eWhat c_eSign m_bank m_rb m_codes m_within m_piled m_unitsInRule m_askStrand m_askTied m_thoughtClaim m_thoughtNeed m_thoughtAll c_roundOf m_acts m_undone m_laid m_firstMove m_seens m_time m_waysNow m_fitting f) (p1 : Int32) (p2 : Int32) (hCV : CVp c_told c_ruleFrom c_ruleTo c_code m_bank) (sz : Nat) : TtI l yX9_strand wsX9_strand 5 112 [.ref (ad 148), .int p1, .int p2] B0 adK adV D cy ad f sz (fun (r : Int32) (g : Nat → va_E) => True ∧ (∃ (m_askStrand' : Int32) (m_askTied' : Int32), TYm ad cy fr0 c_text m_taped m_size m_faultKind m_faultPlace m_at m_end m_token m_number m_name c_points c_strands c_units c_told c_ruleFrom c_ruleTo c_code c_eWhat c_eSign m_bank m_rb m_codes m_within m_piled m_unitsInRule m_askStrand' m_askTied' m_thoughtClaim m_thoughtNeed m_thoughtAll c_roundOf m_acts m_undone m_laid m_firstMove m_seens m_time m_waysNow m_fitting g)) := by
  refine TtI.of (cc := cX9_strand) (maxL := 3) (ty := .int) (own := RX9) (by decide) rfl (Nat.le_of_ble_eq_true rfl) rfl ?_
  intro p e s m below meth c A ls hx hb hr hml hts hown hlk hK hE hP hD hS hA hAB hl
  have hl : lv_has ls 3 [(0, .ref (ad 148)), (1, .int p1), (2, .int p2)] := hl
  refine st0 (fun H locs hP hS => ?_) hP hS
  refine lv_aload_n hx hb dX9_strand_0 rfl (lv_at hl 0 rfl) ?_
  refine lv_iload_n hx hb dX9_strand_1 rfl (lv_at hl 1 rfl) ?_
  obtain ⟨e16, h1, h2, h3, h4, h5, h6, h7, h8, h9, h10, h11, h12, h13, h14, h15⟩ := (show okX9 ad m_taped m_size m_faultKind m_faultPlace m_at m_end m_token m_number m_name m_bank m_rb m_codes m_within m_piled m_unitsInRule m_askStrand m_askTied m_thoughtClaim m_thoughtNeed m_thoughtAll m_acts m_undone m_laid m_firstMove m_seens m_time m_waysNow m_fitting 148 (f 148) from hT.1 148 (by decide))
  refine tVI (As := [.int p1]) (rest := []) (i := 148) ⟨hx, hb, hml, hown, hts⟩ hK hE hP hD hS hA hAB (s_X9_isThread_0 l B0 adK adV D cy ad fr0 c_text m_taped m_size m_faultKind m_faultPlace m_at m_end m_token m_number m_name c_points c_strands c_units c_told c_ruleFrom c_ruleTo c_code c_eWhat c_eSign m_bank m_rb m_codes m_within m_piled m_unitsInRule m_askStrand m_askTied m_thoughtClaim m_thoughtNeed m_thoughtAll c_roundOf m_acts m_undone m_laid m_firstMove m_seens m_time m_waysNow m_fitting f hT p1 _) (cwV 1 hts gX9_strand_X9_isThread rfl rfl rfl (by decide +kernel) ⟨Nat.le_of_ble_eq_true rfl, Nat.le_of_ble_eq_true rfl⟩) (by decide) 9 e16 rfl rfl hl.1 rfl (Nat.le_of_ble_eq_true rfl) dX9_strand_2 ⟨Nat.le_of_ble_eq_true rfl, Nat.le_of_ble_eq_true rfl⟩ (fun r g H locs hw hP hD hS => ?_)
  obtain ⟨hrs, rfl⟩ := hw
  obtain ⟨x17, rfl⟩ : ∃ q, q = r := ⟨_, rfl⟩
  rcases hrs with ⟨rfl, h18, h19⟩ | rfl
  · refine lv_if_ne (tgt := 10) hx hb dX9_strand_5 (by decide) (fun _ => ?_) (fun c => absurd c (by decide))
    refine lv_aload_n hx hb dX9_strand_10 rfl (lv_at hl 0 rfl) ?_
    refine lv_aload_n hx hb dX9_strand_11 rfl (lv_at hl 0 rfl) ?_
    refine va_get (D := D) (cl := vwCl) (ci := 9) (v := .ref (ad 169)) (C := RX9) (T := TX9) (N := 64) hx hb hts in_X9_strand_X9 hown hK hP 148 (wl_at (by decide) e16) rfl 37 (by decide) (hts (.fieldLink RX9 76 "EightReasonsModel" "all" "[I") (List.mem_of_getElem? (i := 1) rfl)) (fun _ h9 => h9) rfl dX9_strand_12 ?_
    refine lv_iconst (v := 1) hx hb dX9_strand_15 (by decide) ?_
    obtain ⟨g22, e20, h21⟩ := (show okIr cy 16 (0) (4095) 16 1 (f 169) from hT.1 169 (by decide))
    have ttl_1 := tl_1
    refine va_iald hx hb hK hP 169 0 (wl_at (by decide) e20) rfl (vin (by decide)) dX9_strand_16 ?_
    refine lv_topi (fun x23 ex23 => ?_)
    have hx23 := r_el (h21 _ (by decide)) ex23
    refine tVV (As := [.int x23]) (rest := []) (i := 148) ⟨hx, hb, hml, hown, hts⟩ hK hE hP hD hS hA hAB (s_X9_layWeights_0 l B0 adK adV D cy ad fr0 c_text m_taped m_size m_faultKind m_faultPlace m_at m_end m_token m_number m_name c_points c_strands c_units c_told c_ruleFrom c_ruleTo c_code c_eWhat c_eSign m_bank m_rb m_codes m_within m_piled m_unitsInRule m_askStrand m_askTied m_thoughtClaim m_thoughtNeed m_thoughtAll c_roundOf m_acts m_undone m_laid m_firstMove m_seens m_time m_waysNow m_fitting f hT x23 (by omega) hCV _) (cwV 1 hts gX9_strand_X9_layWeights rfl rfl rfl (by decide +kernel) ⟨Nat.le_of_ble_eq_true rfl, Nat.le_of_ble_eq_true rfl⟩) (by decide) 9 e16 rfl rfl hl.1 rfl (Nat.le_of_ble_eq_true rfl) dX9_strand_17 ⟨Nat.le_of_ble_eq_true rfl, Nat.le_of_ble_eq_true rfl⟩ (fun f H locs hw hP hD hS => ?_)
    obtain ⟨hrs, x24, x25, hT, h26⟩ := hw
    refine lv_iload_n hx hb dX9_strand_20 rfl (lv_at hl 2 rfl) ?_
    rcases sw_0_4 p2 with c27 | c27 | c27 | c27 | c27 | c27
    · refine lv_tableOut (tgt := 95) hx hb dX9_strand_21 c27 (by decide) ?_
      refine lv_iconst (v := (-1)) hx hb dX9_strand_95 (by decide) ?_
      have ttl_m1 := tl_m1
      exact tI hx hb hr hlk rfl hP hS ⟨trivial, ⟨x24, x25, hT⟩⟩ dX9_strand_96
    · have kc27 := (c_eq c27).trans tl_0
      refine lv_tableIn (off := 35) (tgt := 56) hx hb dX9_strand_21 (by rw [kc27]; decide) (by rw [kc27]; decide) (by rw [kc27]; decide) (by decide) ?_
      refine lv_aload_n hx hb dX9_strand_56 rfl (lv_at hl 0 rfl) ?_
      refine lv_iload_n hx hb dX9_strand_57 rfl (lv_at hl 1 rfl) ?_
      obtain ⟨e43, h28, h29, h30, h31, h32, h33, h34, h35, h36, h37, h38, h39, h40, h41, h42⟩ := (show okX9 ad m_taped m_size m_faultKind m_faultPlace m_at m_end m_token m_number m_name m_bank m_rb m_codes m_within m_piled m_unitsInRule x24 x25 m_thoughtClaim m_thoughtNeed m_thoughtAll m_acts m_undone m_laid m_firstMove m_seens m_time m_waysNow m_fitting 148 (f 148) from hT.1 148 (by decide))
      refine tVI (As := [.int p1]) (rest := []) (i := 148) ⟨hx, hb, hml, hown, hts⟩ hK hE hP hD hS hA hAB (s_X9_fromOf_0 l B0 adK adV D cy ad fr0 c_text m_taped m_size m_faultKind m_faultPlace m_at m_end m_token m_number m_name c_points c_strands c_units c_told c_ruleFrom c_ruleTo c_code c_eWhat c_eSign m_bank m_rb m_codes m_within m_piled m_unitsInRule x24 x25 m_thoughtClaim m_thoughtNeed m_thoughtAll c_roundOf m_acts m_undone m_laid m_firstMove m_seens m_time m_waysNow m_fitting f hT p1 (by omega) _) (cwV 1 hts gX9_strand_X9_fromOf rfl rfl rfl (by decide +kernel) ⟨Nat.le_of_ble_eq_true rfl, Nat.le_of_ble_eq_true rfl⟩) (by decide) 9 e43 rfl rfl hl.1 rfl (Nat.le_of_ble_eq_true rfl) dX9_strand_58 ⟨Nat.le_of_ble_eq_true rfl, Nat.le_of_ble_eq_true rfl⟩ (fun r g H locs hw hP hD hS => ?_)
      obtain ⟨hrs, rfl⟩ := hw
      obtain ⟨x44, rfl⟩ : ∃ q, q = r := ⟨_, rfl⟩
      have h45 := hrs
      exact tI hx hb hr hlk rfl hP hS ⟨trivial, ⟨x24, x25, hT⟩⟩ dX9_strand_61
    · have kc27 := (c_eq c27).trans tl_1
      refine lv_tableIn (off := 41) (tgt := 62) hx hb dX9_strand_21 (by rw [kc27]; decide) (by rw [kc27]; decide) (by rw [kc27]; decide) (by decide) ?_
      refine lv_aload_n hx hb dX9_strand_62 rfl (lv_at hl 0 rfl) ?_
      refine lv_iload_n hx hb dX9_strand_63 rfl (lv_at hl 1 rfl) ?_
      obtain ⟨e61, h46, h47, h48, h49, h50, h51, h52, h53, h54, h55, h56, h57, h58, h59, h60⟩ := (show okX9 ad m_taped m_size m_faultKind m_faultPlace m_at m_end m_token m_number m_name m_bank m_rb m_codes m_within m_piled m_unitsInRule x24 x25 m_thoughtClaim m_thoughtNeed m_thoughtAll m_acts m_undone m_laid m_firstMove m_seens m_time m_waysNow m_fitting 148 (f 148) from hT.1 148 (by decide))
      refine tVI (As := [.int p1]) (rest := []) (i := 148) ⟨hx, hb, hml, hown, hts⟩ hK hE hP hD hS hA hAB (s_X9_toOf_0 l B0 adK adV D cy ad fr0 c_text m_taped m_size m_faultKind m_faultPlace m_at m_end m_token m_number m_name c_points c_strands c_units c_told c_ruleFrom c_ruleTo c_code c_eWhat c_eSign m_bank m_rb m_codes m_within m_piled m_unitsInRule x24 x25 m_thoughtClaim m_thoughtNeed m_thoughtAll c_roundOf m_acts m_undone m_laid m_firstMove m_seens m_time m_waysNow m_fitting f hT p1 (by omega) _) (cwV 1 hts gX9_strand_X9_toOf rfl rfl rfl (by decide +kernel) ⟨Nat.le_of_ble_eq_true rfl, Nat.le_of_ble_eq_true rfl⟩) (by decide) 9 e61 rfl rfl hl.1 rfl (Nat.le_of_ble_eq_true rfl) dX9_strand_64 ⟨Nat.le_of_ble_eq_true rfl, Nat.le_of_ble_eq_true rfl⟩ (fun r g H locs hw hP hD hS => ?_)
      obtain ⟨hrs, rfl⟩ := hw
      obtain ⟨x62, rfl⟩ : ∃ q, q = r := ⟨_, rfl⟩
      have h63 := hrs
      exact tI hx hb hr hlk rfl hP hS ⟨trivial, ⟨x24, x25, hT⟩⟩ dX9_strand_67
    · have kc27 := (c_eq c27).trans tl_2
      refine lv_tableIn (off := 47) (tgt := 68) hx hb dX9_strand_21 (by rw [kc27]; decide) (by rw [kc27]; decide) (by rw [kc27]; decide) (by decide) ?_
      refine lv_aload_n hx hb dX9_strand_68 rfl (lv_at hl 0 rfl) ?_
      obtain ⟨e79, h64, h65, h66, h67, h68, h69, h70, h71, h72, h73, h74, h75, h76, h77, h78⟩ := (show okX9 ad m_taped m_size m_faultKind m_faultPlace m_at m_end m_token m_number m_name m_bank m_rb m_codes m_within m_piled m_unitsInRule x24 x25 m_thoughtClaim m_thoughtNeed m_thoughtAll m_acts m_undone m_laid m_firstMove m_seens m_time m_waysNow m_fitting 148 (f 148) from hT.1 148 (by decide))
      refine va_get (D := D) (cl := vwCl) (ci := 9) (v := .ref (ad 169)) (C := RX9) (T := TX9) (N := 64) hx hb hts in_X9_strand_X9 hown hK hP 148 (wl_at (by decide) e79) rfl 37 (by decide) (hts (.fieldLink RX9 76 "EightReasonsModel" "all" "[I") (List.mem_of_getElem? (i := 1) rfl)) (fun _ h9 => h9) rfl dX9_strand_69 ?_
      refine lv_iconst (v := 2) hx hb dX9_strand_72 (by decide) ?_
      refine lv_iload_n hx hb dX9_strand_73 rfl (lv_at hl 1 rfl) ?_
      have ttl_2 := tl_2
      refine lv_iadd hx hb dX9_strand_74 ?_
      refine lv_topi (fun x80 ex80 => ?_)
      have hx80 := r_add ex80 (by omega) (by omega)
      obtain ⟨g83, e81, h82⟩ := (show okIr cy 16 (0) (4095) 16 1 (f 169) from hT.1 169 (by decide))
      have hc84 := clampZ (x := x80) (by omega)
      refine va_iald hx hb hK hP 169 0 (wl_at (by decide) e81) rfl (vp_in_iff.mpr ⟨by omega, by omega⟩) dX9_strand_75 ?_
      refine lv_topi (fun x85 ex85 => ?_)
      have hx85 := r_elc (h82 _) ex85
      exact tI hx hb hr hlk rfl hP hS ⟨trivial, ⟨x24, x25, hT⟩⟩ dX9_strand_76
    · have kc27 := (c_eq c27).trans tl_3
      refine lv_tableIn (off := 56) (tgt := 77) hx hb dX9_strand_21 (by rw [kc27]; decide) (by rw [kc27]; decide) (by rw [kc27]; decide) (by decide) ?_
      refine lv_aload_n hx hb dX9_strand_77 rfl (lv_at hl 0 rfl) ?_
      obtain ⟨e101, h86, h87, h88, h89, h90, h91, h92, h93, h94, h95, h96, h97, h98, h99, h100⟩ := (show okX9 ad m_taped m_size m_faultKind m_faultPlace m_at m_end m_token m_number m_name m_bank m_rb m_codes m_within m_piled m_unitsInRule x24 x25 m_thoughtClaim m_thoughtNeed m_thoughtAll m_acts m_undone m_laid m_firstMove m_seens m_time m_waysNow m_fitting 148 (f 148) from hT.1 148 (by decide))
      refine va_get (D := D) (cl := vwCl) (ci := 9) (v := .ref (ad 169)) (C := RX9) (T := TX9) (N := 64) hx hb hts in_X9_strand_X9 hown hK hP 148 (wl_at (by decide) e101) rfl 37 (by decide) (hts (.fieldLink RX9 76 "EightReasonsModel" "all" "[I") (List.mem_of_getElem? (i := 1) rfl)) (fun _ h9 => h9) rfl dX9_strand_78 ?_
      refine lv_iconst (v := 1) hx hb dX9_strand_81 (by decide) ?_
      obtain ⟨g104, e102, h103⟩ := (show okIr cy 16 (0) (4095) 16 1 (f 169) from hT.1 169 (by decide))
      refine va_iald hx hb hK hP 169 0 (wl_at (by decide) e102) rfl (vin (by decide)) dX9_strand_82 ?_
      refine lv_topi (fun x105 ex105 => ?_)
      have hx105 := r_el (h103 _ (by decide)) ex105
      refine lv_iload_n hx hb dX9_strand_83 rfl (lv_at hl 1 rfl) ?_
      refine lv_ishr hx hb dX9_strand_84 ?_
      refine lv_topi (fun x106 ex106 => ?_)
      refine lv_iconst (v := 1) hx hb dX9_strand_85 (by decide) ?_
      refine lv_iand hx hb dX9_strand_86 ?_
      refine lv_topi (fun x107 ex107 => ?_)
      have hx107 := r_andr ex107 (by omega)
      exact tI hx hb hr hlk rfl hP hS ⟨trivial, ⟨x24, x25, hT⟩⟩ dX9_strand_87
    · have kc27 := (c_eq c27).trans tl_4
      refine lv_tableIn (off := 67) (tgt := 88) hx hb dX9_strand_21 (by rw [kc27]; decide) (by rw [kc27]; decide) (by rw [kc27]; decide) (by decide) ?_
      refine lv_aload_n hx hb dX9_strand_88 rfl (lv_at hl 0 rfl) ?_
      obtain ⟨e123, h108, h109, h110, h111, h112, h113, h114, h115, h116, h117, h118, h119, h120, h121, h122⟩ := (show okX9 ad m_taped m_size m_faultKind m_faultPlace m_at m_end m_token m_number m_name m_bank m_rb m_codes m_within m_piled m_unitsInRule x24 x25 m_thoughtClaim m_thoughtNeed m_thoughtAll m_acts m_undone m_laid m_firstMove m_seens m_time m_waysNow m_fitting 148 (f 148) from hT.1 148 (by decide))
      refine va_get (D := D) (cl := vwCl) (ci := 9) (v := .ref (ad 171)) (C := RX9) (T := TX9) (N := 64) hx hb hts in_X9_strand_X9 hown hK hP 148 (wl_at (by decide) e123) rfl 42 (by decide) (hts (.fieldLink RX9 88 "EightReasonsModel" "weightOf" "[I") (List.mem_of_getElem? (i := 2) rfl)) (fun _ h9 => h9) rfl dX9_strand_89 ?_
      refine lv_iload_n hx hb dX9_strand_92 rfl (lv_at hl 1 rfl) ?_
      obtain ⟨g125, e124⟩ := (show okI cy 12 (f 171) from hT.1 171 (by decide))
      refine va_iald hx hb hK hP 171 0 (wl_at (by decide) e124) rfl (vp_in_iff.mpr ⟨by omega, by omega⟩) dX9_strand_93 ?_
      refine lv_topi (fun x126 ex126 => ?_)
      exact tI hx hb hr hlk rfl hP hS ⟨trivial, ⟨x24, x25, hT⟩⟩ dX9_strand_94
  · refine lv_if_ne (tgt := 10) hx hb dX9_strand_5 (by decide) (fun c => absurd (by decide) c) (fun _ => ?_)
    refine lv_iconst (v := (-1)) hx hb dX9_strand_8 (by decide) ?_
    have ttl_m1 := tl_m1
    exact tI hx hb hr hlk rfl hP hS ⟨trivial, ⟨m_askStrand, m_askTied, hT⟩⟩ dX9_strand_9
set_option maxHeartbeats 4000000 in
set_option maxRecDepth 100000 in
theorem s_X9_facts_0 (l : Launch) (B0 : Nat) (adK adV : Nat → Nat) (D : va_G) (cy : Nat → ClassId) (ad : Nat → Nat) (fr0 : Nat → va_E) (c_text : Nat → Int32) (m_taped : Int32) (m_size : Int32) (m_faultKind : Int32) (m_faultPlace : Int32) (m_at : Int32) (m_end : Int32) (m_token : Int32) (m_number : Int32) (m_name : Int64) (c_points : Nat → Int32) (c_strands : Nat → Int32) (c_units : Nat → Int32) (c_told : Nat → Int32) (c_ruleFrom : Nat → Int32) (c_ruleTo : Nat → Int32) (c_code : Nat → Int32) (c_eWhat : Nat → Int32) (c_eSign : Nat → Int32) (m_bank : Int32) (m_rb : Int32) (m_codes : Int32) (m_within : Int32) (m_piled : Int32) (m_unitsInRule : Int32) (m_askStrand : Int32) (m_askTied : Int32) (m_thoughtClaim : Int32) (m_thoughtNeed : Int32) (m_thoughtAll : Int32) (c_roundOf : Nat → Int32) (m_acts : Int32) (m_undone : Int32) (m_laid : Int32) (m_firstMove : Int32) (m_seens : Int32) (m_time : Int32) (m_waysNow : Int32) (m_fitting : Int32) (f : Nat → va_E) (hT : TYm ad cy fr0 c_text m_taped m_size m_faultKind m_faultPlace m_at m_end m_token m_number m_name c_points c_strands c_units c_told c_ruleFrom c_ruleTo c_code c_eWhat c_eSign m_bank m_rb m_codes m_within m_piled m_unitsInRule m_askStrand m_askTied m_thoughtClaim m_thoughtNeed m_thoughtAll c_roundOf m_acts m_undone m_laid m_firstMove m_seens m_time m_waysNow m_fitting f) (sz : Nat) : TtI l yX9_facts wsX9_facts 3 64 [.ref (ad 148)] B0 adK adV D cy ad f sz (fun (r : Int32) (g : Nat → va_E) => (0 ≤ r.toInt ∧ r.toInt ≤ 4095) ∧ (f = g)) := by
  refine TtI.of (cc := cX9_facts) (maxL := 3) (ty := .int) (own := RX9) (by decide) rfl (Nat.le_of_ble_eq_true rfl) rfl ?_
  intro p e s m below meth c A ls hx hb hr hml hts hown hlk hK hE hP hD hS hA hAB hl
  have hl : lv_has ls 3 [(0, .ref (ad 148))] := hl
  refine st0 (fun H locs hP hS => ?_) hP hS
  have j4 : ∀ (N : Nat) (H : Heap) (locs : List Loc) (ls : Array Slot) (v4_l2 : Int32) (v4_l1 : Int32), (11 - v4_l2.toInt ≤ (N : Int)) → (0 ≤ v4_l2.toInt ∧ v4_l2.toInt ≤ 10) → (0 ≤ v4_l1.toInt ∧ v4_l1.toInt ≤ 4095) → (va_P D vwCl (wl ad f) H) → (va_D A (wl ad f)) → (va_S A s.heap H locs) → (lv_has ls 3 [(2, .int v4_l2), (1, .int v4_l1), (0, .ref (ad 148))]) → W p l e (rmO 3 64 0 0) s m ([.ref (ad 148)] : List Value).toArray below meth c H locs 0 0 (MQ below (va_Qi (fun (r : Int32) (g : Nat → va_E) => (0 ≤ r.toInt ∧ r.toInt ≤ 4095) ∧ (f = g)) (fun g t => PstT D ad g t) A) ([.ref (ad 148)] : List Value).toArray s 0 0 A) (F0 m 4 ls []) := by
    intro N
    induction N with
    | zero => intro H locs ls v4_l2 v4_l1 hN hv4_l2 hv4_l1 hP hD hS hl; exact absurd hN (by omega)
    | succ N ih4 =>
      intro H locs ls v4_l2 v4_l1 hN hv4_l2 hv4_l1 hP hD hS hl
      have j26 : ∀ (H : Heap) (locs : List Loc) (ls : Array Slot) (v26_l1 : Int32), (0 ≤ v26_l1.toInt ∧ v26_l1.toInt ≤ 4095) → (0 ≤ v4_l2.toInt ∧ v4_l2.toInt ≤ 9) → (va_P D vwCl (wl ad f) H) → (va_D A (wl ad f)) → (va_S A s.heap H locs) → (lv_has ls 3 [(1, .int v26_l1), (2, .int v4_l2), (0, .ref (ad 148))]) → W p l e (rmO 3 64 0 0) s m ([.ref (ad 148)] : List Value).toArray below meth c H locs 0 0 (MQ below (va_Qi (fun (r : Int32) (g : Nat → va_E) => (0 ≤ r.toInt ∧ r.toInt ≤ 4095) ∧ (f = g)) (fun g t => PstT D ad g t) A) ([.ref (ad 148)] : List Value).toArray s 0 0 A) (F0 m 26 ls []) := by
        intro H locs ls v26_l1 hv26_l1 hv26_l2 hP hD hS hl
        obtain ⟨x1, ex1⟩ : ∃ q : Int32, q = v4_l2 + Int32.ofInt (1) := ⟨_, rfl⟩
        refine lv_iinc (v := x1) (lv' := [(2, .int x1), (1, .int v26_l1), (0, .ref (ad 148))]) hx hb dX9_facts_26 hl (k := 1) rfl ex1.symm (by decide) rfl (fun ls hl => ?_)
        have hx1 := r_inc ex1 (by decide) (by omega) (by omega)
        refine lv_goto (tgt := 4) hx hb dX9_facts_29 (by decide) ?_
        exact ih4 H locs ls x1 v26_l1 (by omega) (by omega) (by omega) hP hD hS (lv_sub hl [0, 1, 2] rfl)
      refine lv_iload_n hx hb dX9_facts_4 rfl (lv_at hl 0 rfl) ?_
      refine lv_aload_n hx hb dX9_facts_5 rfl (lv_at hl 2 rfl) ?_
      obtain ⟨e17, h2, h3, h4, h5, h6, h7, h8, h9, h10, h11, h12, h13, h14, h15, h16⟩ := (show okX9 ad m_taped m_size m_faultKind m_faultPlace m_at m_end m_token m_number m_name m_bank m_rb m_codes m_within m_piled m_unitsInRule m_askStrand m_askTied m_thoughtClaim m_thoughtNeed m_thoughtAll m_acts m_undone m_laid m_firstMove m_seens m_time m_waysNow m_fitting 148 (f 148) from hT.1 148 (by decide))
      refine tVI (As := []) (rest := [.int v4_l2]) (i := 148) ⟨hx, hb, hml, hown, hts⟩ hK hE hP hD hS hA hAB (s_X9_many_0 l B0 adK adV D cy ad fr0 c_text m_taped m_size m_faultKind m_faultPlace m_at m_end m_token m_number m_name c_points c_strands c_units c_told c_ruleFrom c_ruleTo c_code c_eWhat c_eSign m_bank m_rb m_codes m_within m_piled m_unitsInRule m_askStrand m_askTied m_thoughtClaim m_thoughtNeed m_thoughtAll c_roundOf m_acts m_undone m_laid m_firstMove m_seens m_time m_waysNow m_fitting f hT _) (cwV 0 hts gX9_facts_X9_many rfl rfl rfl (by decide +kernel) ⟨Nat.le_of_ble_eq_true rfl, Nat.le_of_ble_eq_true rfl⟩) (by decide) 9 e17 rfl rfl hl.1 rfl (Nat.le_of_ble_eq_true rfl) dX9_facts_6 ⟨Nat.le_of_ble_eq_true rfl, Nat.le_of_ble_eq_true rfl⟩ (fun r g H locs hw hP hD hS => ?_)
      obtain ⟨hrs, rfl⟩ := hw
      obtain ⟨x18, rfl⟩ : ∃ q, q = r := ⟨_, rfl⟩
      have h19 := hrs
      refine lv_icmp_ge (tgt := 32) hx hb dX9_facts_9 (by decide) (fun c20 => ?_) (fun c20 => ?_)
      · have kc20 := c_le c20
        refine lv_iload_n hx hb dX9_facts_32 rfl (lv_at hl 1 rfl) ?_
        exact tI hx hb hr hlk rfl hP hS ⟨(by omega), rfl⟩ dX9_facts_33
      · have kc20 := c_nle c20
        refine lv_aload_n hx hb dX9_facts_12 rfl (lv_at hl 2 rfl) ?_
        refine lv_iload_n hx hb dX9_facts_13 rfl (lv_at hl 0 rfl) ?_
        refine tVI (As := [.int v4_l2]) (rest := []) (i := 148) ⟨hx, hb, hml, hown, hts⟩ hK hE hP hD hS hA hAB (s_X9_isFact_0 l B0 adK adV D cy ad fr0 c_text m_taped m_size m_faultKind m_faultPlace m_at m_end m_token m_number m_name c_points c_strands c_units c_told c_ruleFrom c_ruleTo c_code c_eWhat c_eSign m_bank m_rb m_codes m_within m_piled m_unitsInRule m_askStrand m_askTied m_thoughtClaim m_thoughtNeed m_thoughtAll c_roundOf m_acts m_undone m_laid m_firstMove m_seens m_time m_waysNow m_fitting f hT v4_l2 _) (cwV 1 hts gX9_facts_X9_isFact rfl rfl rfl (by decide +kernel) ⟨Nat.le_of_ble_eq_true rfl, Nat.le_of_ble_eq_true rfl⟩) (by decide) 9 e17 rfl rfl hl.1 rfl (Nat.le_of_ble_eq_true rfl) dX9_facts_14 ⟨Nat.le_of_ble_eq_true rfl, Nat.le_of_ble_eq_true rfl⟩ (fun r g H locs hw hP hD hS => ?_)
        obtain ⟨hrs, rfl⟩ := hw
        obtain ⟨x21, rfl⟩ : ∃ q, q = r := ⟨_, rfl⟩
        rcases hrs with ⟨rfl, h22, h23⟩ | rfl
        · refine lv_if_eq (tgt := 26) hx hb dX9_facts_17 (by decide) (fun c => absurd c (by decide)) (fun _ => ?_)
          refine lv_iload_n hx hb dX9_facts_20 rfl (lv_at hl 1 rfl) ?_
          refine lv_iconst (v := 1) hx hb dX9_facts_21 (by decide) ?_
          refine lv_iload_n hx hb dX9_facts_22 rfl (lv_at hl 0 rfl) ?_
          refine lv_ishl hx hb dX9_facts_23 ?_
          refine lv_topi (fun x24 ex24 => ?_)
          have hx24 := r_shl (K := 9) (M := 512) ex24 (by decide) (by decide) (by omega) (by omega)
          refine lv_ior hx hb dX9_facts_24 ?_
          refine lv_topi (fun x25 ex25 => ?_)
          have hx25 := r_or (k := 12) (K := 4096) ex25 (by decide) (by decide) (by omega) (by omega) (by omega) (by omega)
          refine lv_istore_n (lv' := [(1, .int x25), (2, .int v4_l2), (0, .ref (ad 148))]) hx hb dX9_facts_25 rfl hl (by decide) rfl (fun ls hl => ?_)
          exact j26 H locs ls x25 (by omega) (by omega) hP hD hS (lv_sub hl [0, 1, 2] rfl)
        · refine lv_if_eq (tgt := 26) hx hb dX9_facts_17 (by decide) (fun _ => ?_) (fun c => absurd (by decide) c)
          exact j26 H locs ls v4_l1 (by omega) (by omega) hP hD hS (lv_sub hl [1, 0, 2] rfl)
  refine lv_iconst (v := 0) hx hb dX9_facts_0 (by decide) ?_
  refine lv_istore_n (lv' := [(1, .int 0), (0, .ref (ad 148))]) hx hb dX9_facts_1 rfl hl (by decide) rfl (fun ls hl => ?_)
  refine lv_iconst (v := 0) hx hb dX9_facts_2 (by decide) ?_
  refine lv_istore_n (lv' := [(2, .int 0), (1, .int 0), (0, .ref (ad 148))]) hx hb dX9_facts_3 rfl hl (by decide) rfl (fun ls hl => ?_)
  have ttl_0 := tl_0
  exact j4 (Int.toNat (11 - (0 : Int32).toInt)) H locs ls (0 : Int32) (0 : Int32) (by omega) (by omega) (by omega) hP hD hS (lv_sub hl [0, 1, 2] rfl)
set_option maxHeartbeats 4000000 in
set_option maxRecDepth 100000 in
theorem s_X9_claims_0 (l : Launch) (B0 : Nat) (adK adV : Nat → Nat) (D : va_G) (cy : Nat → ClassId) (ad : Nat → Nat) (fr0 : Nat → va_E) (c_text : Nat → Int32) (m_taped : Int32) (m_size : Int32) (m_faultKind : Int32) (m_faultPlace : Int32) (m_at : Int32) (m_end : Int32) (m_token : Int32) (m_number : Int32) (m_name : Int64) (c_points : Nat → Int32) (c_strands : Nat → Int32) (c_units : Nat → Int32) (c_told : Nat → Int32) (c_ruleFrom : Nat → Int32) (c_ruleTo : Nat → Int32) (c_code : Nat → Int32) (c_eWhat : Nat → Int32) (c_eSign : Nat → Int32) (m_bank : Int32) (m_rb : Int32) (m_codes : Int32) (m_within : Int32) (m_piled : Int32) (m_unitsInRule : Int32) (m_askStrand : Int32) (m_askTied : Int32) (m_thoughtClaim : Int32) (m_thoughtNeed : Int32) (m_thoughtAll : Int32) (c_roundOf : Nat → Int32) (m_acts : Int32) (m_undone : Int32) (m_laid : Int32) (m_firstMove : Int32) (m_seens : Int32) (m_time : Int32) (m_waysNow : Int32) (m_fitting : Int32) (f : Nat → va_E) (hT : TYm ad cy fr0 c_text m_taped m_size m_faultKind m_faultPlace m_at m_end m_token m_number m_name c_points c_strands c_units c_told c_ruleFrom c_ruleTo c_code c_eWhat c_eSign m_bank m_rb m_codes m_within m_piled m_unitsInRule m_askStrand m_askTied m_thoughtClaim m_thoughtNeed m_thoughtAll c_roundOf m_acts m_undone m_laid m_firstMove m_seens m_time m_waysNow m_fitting f) (sz : Nat) : TtI l yX9_claims wsX9_claims 4 86 [.ref (ad 148)] B0 adK adV D cy ad f sz (fun (r : Int32) (g : Nat → va_E) => (0 ≤ r.toInt ∧ r.toInt ≤ 1023) ∧ (f = g)) := by
  refine TtI.of (cc := cX9_claims) (maxL := 1) (ty := .int) (own := RX9) (by decide) rfl (Nat.le_of_ble_eq_true rfl) rfl ?_
  intro p e s m below meth c A ls hx hb hr hml hts hown hlk hK hE hP hD hS hA hAB hl
  have hl : lv_has ls 1 [(0, .ref (ad 148))] := hl
  refine st0 (fun H locs hP hS => ?_) hP hS
  refine lv_iconst (v := 1) hx hb dX9_claims_0 (by decide) ?_
  refine lv_aload_n hx hb dX9_claims_1 rfl (lv_at hl 0 rfl) ?_
  obtain ⟨e16, h1, h2, h3, h4, h5, h6, h7, h8, h9, h10, h11, h12, h13, h14, h15⟩ := (show okX9 ad m_taped m_size m_faultKind m_faultPlace m_at m_end m_token m_number m_name m_bank m_rb m_codes m_within m_piled m_unitsInRule m_askStrand m_askTied m_thoughtClaim m_thoughtNeed m_thoughtAll m_acts m_undone m_laid m_firstMove m_seens m_time m_waysNow m_fitting 148 (f 148) from hT.1 148 (by decide))
  refine tVI (As := []) (rest := [.int 1]) (i := 148) ⟨hx, hb, hml, hown, hts⟩ hK hE hP hD hS hA hAB (s_X9_many_0 l B0 adK adV D cy ad fr0 c_text m_taped m_size m_faultKind m_faultPlace m_at m_end m_token m_number m_name c_points c_strands c_units c_told c_ruleFrom c_ruleTo c_code c_eWhat c_eSign m_bank m_rb m_codes m_within m_piled m_unitsInRule m_askStrand m_askTied m_thoughtClaim m_thoughtNeed m_thoughtAll c_roundOf m_acts m_undone m_laid m_firstMove m_seens m_time m_waysNow m_fitting f hT _) (cwV 0 hts gX9_claims_X9_many rfl rfl rfl (by decide +kernel) ⟨Nat.le_of_ble_eq_true rfl, Nat.le_of_ble_eq_true rfl⟩) (by decide) 9 e16 rfl rfl hl.1 rfl (Nat.le_of_ble_eq_true rfl) dX9_claims_2 ⟨Nat.le_of_ble_eq_true rfl, Nat.le_of_ble_eq_true rfl⟩ (fun r g H locs hw hP hD hS => ?_)
  obtain ⟨hrs, rfl⟩ := hw
  obtain ⟨x17, rfl⟩ : ∃ q, q = r := ⟨_, rfl⟩
  have h18 := hrs
  refine lv_ishl hx hb dX9_claims_5 ?_
  refine lv_topi (fun x19 ex19 => ?_)
  have hx19 := r_shl (K := 10) (M := 1024) ex19 (by decide) (by decide) (by omega) (by omega)
  refine lv_iconst (v := 1) hx hb dX9_claims_6 (by decide) ?_
  have ttl_1 := tl_1
  refine lv_isub hx hb dX9_claims_7 ?_
  refine lv_topi (fun x20 ex20 => ?_)
  have hx20 := r_sub ex20 (by omega) (by omega)
  refine lv_aload_n hx hb dX9_claims_8 rfl (lv_at hl 0 rfl) ?_
  refine tVI (As := []) (rest := [.int x20]) (i := 148) ⟨hx, hb, hml, hown, hts⟩ hK hE hP hD hS hA hAB (s_X9_facts_0 l B0 adK adV D cy ad fr0 c_text m_taped m_size m_faultKind m_faultPlace m_at m_end m_token m_number m_name c_points c_strands c_units c_told c_ruleFrom c_ruleTo c_code c_eWhat c_eSign m_bank m_rb m_codes m_within m_piled m_unitsInRule m_askStrand m_askTied m_thoughtClaim m_thoughtNeed m_thoughtAll c_roundOf m_acts m_undone m_laid m_firstMove m_seens m_time m_waysNow m_fitting f hT _) (cwV 0 hts gX9_claims_X9_facts rfl rfl rfl (by decide +kernel) ⟨Nat.le_of_ble_eq_true rfl, Nat.le_of_ble_eq_true rfl⟩) (by decide) 9 e16 rfl rfl hl.1 rfl (Nat.le_of_ble_eq_true rfl) dX9_claims_9 ⟨Nat.le_of_ble_eq_true rfl, Nat.le_of_ble_eq_true rfl⟩ (fun r g H locs hw hP hD hS => ?_)
  obtain ⟨hrs, rfl⟩ := hw
  obtain ⟨x21, rfl⟩ : ∃ q, q = r := ⟨_, rfl⟩
  have h22 := hrs
  refine lv_iconst (v := (-1)) hx hb dX9_claims_12 (by decide) ?_
  refine lv_ixor hx hb dX9_claims_13 ?_
  refine lv_topi (fun x23 ex23 => ?_)
  refine lv_iand hx hb dX9_claims_14 ?_
  refine lv_topi (fun x24 ex24 => ?_)
  have hx24 := r_andl ex24 (by omega)
  exact tI hx hb hr hlk rfl hP hS ⟨(by omega), rfl⟩ dX9_claims_15
set_option maxHeartbeats 4000000 in
set_option maxRecDepth 100000 in
theorem s_X9_borne_0 (l : Launch) (B0 : Nat) (adK adV : Nat → Nat) (D : va_G) (cy : Nat → ClassId) (ad : Nat → Nat) (fr0 : Nat → va_E) (c_text : Nat → Int32) (m_taped : Int32) (m_size : Int32) (m_faultKind : Int32) (m_faultPlace : Int32) (m_at : Int32) (m_end : Int32) (m_token : Int32) (m_number : Int32) (m_name : Int64) (c_points : Nat → Int32) (c_strands : Nat → Int32) (c_units : Nat → Int32) (c_told : Nat → Int32) (c_ruleFrom : Nat → Int32) (c_ruleTo : Nat → Int32) (c_code : Nat → Int32) (c_eWhat : Nat → Int32) (c_eSign : Nat → Int32) (m_bank : Int32) (m_rb : Int32) (m_codes : Int32) (m_within : Int32) (m_piled : Int32) (m_unitsInRule : Int32) (m_askStrand : Int32) (m_askTied : Int32) (m_thoughtClaim : Int32) (m_thoughtNeed : Int32) (m_thoughtAll : Int32) (c_roundOf : Nat → Int32) (m_acts : Int32) (m_undone : Int32) (m_laid : Int32) (m_firstMove : Int32) (m_seens : Int32) (m_time : Int32) (m_waysNow : Int32) (m_fitting : Int32) (f : Nat → va_E) (hT : TYm ad cy fr0 c_text m_taped m_size m_faultKind m_faultPlace m_at m_end m_token m_number m_name c_points c_strands c_units c_told c_ruleFrom c_ruleTo c_code c_eWhat c_eSign m_bank m_rb m_codes m_within m_piled m_unitsInRule m_askStrand m_askTied m_thoughtClaim m_thoughtNeed m_thoughtAll c_roundOf m_acts m_undone m_laid m_firstMove m_seens m_time m_waysNow m_fitting f) (p1 : Int32) (hp1 : 0 ≤ p1.toInt ∧ p1.toInt ≤ 9) (p2 : Int32) (hp2 : 0 ≤ p2.toInt ∧ p2.toInt ≤ 4095) (sz : Nat) : TtI l yX9_borne wsX9_borne 1 21 [.ref (ad 148), .int p1, .int p2] B0 adK adV D cy ad f sz (fun (r : Int32) (g : Nat → va_E) => True ∧ (f = g)) := by
  refine TtI.of (cc := cX9_borne) (maxL := 5) (ty := .int) (own := RX9) (by decide) rfl (Nat.le_of_ble_eq_true rfl) rfl ?_
  intro p e s m below meth c A ls hx hb hr hml hts hown hlk hK hE hP hD hS hA hAB hl
  have hl : lv_has ls 5 [(0, .ref (ad 148)), (1, .int p1), (2, .int p2)] := hl
  refine st0 (fun H locs hP hS => ?_) hP hS
  have j5 : ∀ (N : Nat) (H : Heap) (locs : List Loc) (ls : Array Slot) (v5_l4 : Int32) (v5_l3 : Int32), (13 - v5_l4.toInt ≤ (N : Int)) → (0 ≤ v5_l4.toInt ∧ v5_l4.toInt ≤ 12) → (0 ≤ p1.toInt ∧ p1.toInt ≤ 9) → (0 ≤ p2.toInt ∧ p2.toInt ≤ 4095) → (va_P D vwCl (wl ad f) H) → (va_D A (wl ad f)) → (va_S A s.heap H locs) → (lv_has ls 5 [(4, .int v5_l4), (3, .int v5_l3), (0, .ref (ad 148)), (1, .int p1), (2, .int p2)]) → W p l e (rmO 1 21 0 0) s m ([.ref (ad 148), .int p1, .int p2] : List Value).toArray below meth c H locs 0 0 (MQ below (va_Qi (fun (r : Int32) (g : Nat → va_E) => True ∧ (f = g)) (fun g t => PstT D ad g t) A) ([.ref (ad 148), .int p1, .int p2] : List Value).toArray s 0 0 A) (F0 m 5 ls []) := by
    intro N
    induction N with
    | zero => intro H locs ls v5_l4 v5_l3 hN hv5_l4 hv5_l1 hv5_l2 hP hD hS hl; exact absurd hN (by omega)
    | succ N ih5 =>
      intro H locs ls v5_l4 v5_l3 hN hv5_l4 hv5_l1 hv5_l2 hP hD hS hl
      have j47 : ∀ (H : Heap) (locs : List Loc) (ls : Array Slot) (v47_l3 : Int32), (0 ≤ v5_l4.toInt ∧ v5_l4.toInt ≤ 11) → (0 ≤ p1.toInt ∧ p1.toInt ≤ 9) → (0 ≤ p2.toInt ∧ p2.toInt ≤ 4095) → (va_P D vwCl (wl ad f) H) → (va_D A (wl ad f)) → (va_S A s.heap H locs) → (lv_has ls 5 [(4, .int v5_l4), (3, .int v47_l3), (0, .ref (ad 148)), (1, .int p1), (2, .int p2)]) → W p l e (rmO 1 21 0 0) s m ([.ref (ad 148), .int p1, .int p2] : List Value).toArray below meth c H locs 0 0 (MQ below (va_Qi (fun (r : Int32) (g : Nat → va_E) => True ∧ (f = g)) (fun g t => PstT D ad g t) A) ([.ref (ad 148), .int p1, .int p2] : List Value).toArray s 0 0 A) (F0 m 47 ls []) := by
        intro H locs ls v47_l3 hv47_l4 hv47_l1 hv47_l2 hP hD hS hl
        obtain ⟨x1, ex1⟩ : ∃ q : Int32, q = v5_l4 + Int32.ofInt (1) := ⟨_, rfl⟩
        refine lv_iinc (v := x1) (lv' := [(4, .int x1), (3, .int v47_l3), (0, .ref (ad 148)), (1, .int p1), (2, .int p2)]) hx hb dX9_borne_47 hl (k := 0) rfl ex1.symm (by decide) rfl (fun ls hl => ?_)
        have hx1 := r_inc ex1 (by decide) (by omega) (by omega)
        refine lv_goto (tgt := 5) hx hb dX9_borne_50 (by decide) ?_
        exact ih5 H locs ls x1 v47_l3 (by omega) (by omega) (by omega) (by omega) hP hD hS (lv_sub hl [0, 1, 2, 3, 4] rfl)
      refine lv_iload hx hb dX9_borne_5 (lv_at hl 0 rfl) ?_
      refine lv_aload_n hx hb dX9_borne_7 rfl (lv_at hl 2 rfl) ?_
      obtain ⟨e17, h2, h3, h4, h5, h6, h7, h8, h9, h10, h11, h12, h13, h14, h15, h16⟩ := (show okX9 ad m_taped m_size m_faultKind m_faultPlace m_at m_end m_token m_number m_name m_bank m_rb m_codes m_within m_piled m_unitsInRule m_askStrand m_askTied m_thoughtClaim m_thoughtNeed m_thoughtAll m_acts m_undone m_laid m_firstMove m_seens m_time m_waysNow m_fitting 148 (f 148) from hT.1 148 (by decide))
      refine tVI (As := []) (rest := [.int v5_l4]) (i := 148) ⟨hx, hb, hml, hown, hts⟩ hK hE hP hD hS hA hAB (s_X9_threads_0 l B0 adK adV D cy ad fr0 c_text m_taped m_size m_faultKind m_faultPlace m_at m_end m_token m_number m_name c_points c_strands c_units c_told c_ruleFrom c_ruleTo c_code c_eWhat c_eSign m_bank m_rb m_codes m_within m_piled m_unitsInRule m_askStrand m_askTied m_thoughtClaim m_thoughtNeed m_thoughtAll c_roundOf m_acts m_undone m_laid m_firstMove m_seens m_time m_waysNow m_fitting f hT _) (cwV 0 hts gX9_borne_X9_threads rfl rfl rfl (by decide +kernel) ⟨Nat.le_of_ble_eq_true rfl, Nat.le_of_ble_eq_true rfl⟩) (by decide) 9 e17 rfl rfl hl.1 rfl (Nat.le_of_ble_eq_true rfl) dX9_borne_8 ⟨Nat.le_of_ble_eq_true rfl, Nat.le_of_ble_eq_true rfl⟩ (fun r g H locs hw hP hD hS => ?_)
      obtain ⟨hrs, rfl⟩ := hw
      obtain ⟨x18, rfl⟩ : ∃ q, q = r := ⟨_, rfl⟩
      have h19 := hrs
      refine lv_icmp_ge (tgt := 53) hx hb dX9_borne_11 (by decide) (fun c20 => ?_) (fun c20 => ?_)
      · have kc20 := c_le c20
        refine lv_iload_n hx hb dX9_borne_53 rfl (lv_at hl 1 rfl) ?_
        exact tI hx hb hr hlk rfl hP hS ⟨trivial, rfl⟩ dX9_borne_54
      · have kc20 := c_nle c20
        refine lv_aload_n hx hb dX9_borne_14 rfl (lv_at hl 2 rfl) ?_
        refine lv_iload hx hb dX9_borne_15 (lv_at hl 0 rfl) ?_
        refine tVI (As := [.int v5_l4]) (rest := []) (i := 148) ⟨hx, hb, hml, hown, hts⟩ hK hE hP hD hS hA hAB (s_X9_toOf_0 l B0 adK adV D cy ad fr0 c_text m_taped m_size m_faultKind m_faultPlace m_at m_end m_token m_number m_name c_points c_strands c_units c_told c_ruleFrom c_ruleTo c_code c_eWhat c_eSign m_bank m_rb m_codes m_within m_piled m_unitsInRule m_askStrand m_askTied m_thoughtClaim m_thoughtNeed m_thoughtAll c_roundOf m_acts m_undone m_laid m_firstMove m_seens m_time m_waysNow m_fitting f hT v5_l4 (by omega) _) (cwV 1 hts gX9_borne_X9_toOf rfl rfl rfl (by decide +kernel) ⟨Nat.le_of_ble_eq_true rfl, Nat.le_of_ble_eq_true rfl⟩) (by decide) 9 e17 rfl rfl hl.1 rfl (Nat.le_of_ble_eq_true rfl) dX9_borne_17 ⟨Nat.le_of_ble_eq_true rfl, Nat.le_of_ble_eq_true rfl⟩ (fun r g H locs hw hP hD hS => ?_)
        obtain ⟨hrs, rfl⟩ := hw
        obtain ⟨x21, rfl⟩ : ∃ q, q = r := ⟨_, rfl⟩
        have h22 := hrs
        refine lv_iload_n hx hb dX9_borne_20 rfl (lv_at hl 3 rfl) ?_
        refine lv_icmp_ne (tgt := 47) hx hb dX9_borne_21 (by decide) (fun c23 => ?_) (fun c23 => ?_)
        · have kc23 := c_ne c23
          exact j47 H locs ls v5_l3 (by omega) (by omega) (by omega) hP hD hS (lv_sub hl [0, 1, 2, 3, 4] rfl)
        · have kc23 := c_eq c23
          refine lv_iload_n hx hb dX9_borne_24 rfl (lv_at hl 4 rfl) ?_
          refine lv_aload_n hx hb dX9_borne_25 rfl (lv_at hl 2 rfl) ?_
          refine lv_iload hx hb dX9_borne_26 (lv_at hl 0 rfl) ?_
          refine tVI (As := [.int v5_l4]) (rest := [.int p2]) (i := 148) ⟨hx, hb, hml, hown, hts⟩ hK hE hP hD hS hA hAB (s_X9_fromOf_0 l B0 adK adV D cy ad fr0 c_text m_taped m_size m_faultKind m_faultPlace m_at m_end m_token m_number m_name c_points c_strands c_units c_told c_ruleFrom c_ruleTo c_code c_eWhat c_eSign m_bank m_rb m_codes m_within m_piled m_unitsInRule m_askStrand m_askTied m_thoughtClaim m_thoughtNeed m_thoughtAll c_roundOf m_acts m_undone m_laid m_firstMove m_seens m_time m_waysNow m_fitting f hT v5_l4 (by omega) _) (cwV 1 hts gX9_borne_X9_fromOf rfl rfl rfl (by decide +kernel) ⟨Nat.le_of_ble_eq_true rfl, Nat.le_of_ble_eq_true rfl⟩) (by decide) 9 e17 rfl rfl hl.1 rfl (Nat.le_of_ble_eq_true rfl) dX9_borne_28 ⟨Nat.le_of_ble_eq_true rfl, Nat.le_of_ble_eq_true rfl⟩ (fun r g H locs hw hP hD hS => ?_)
          obtain ⟨hrs, rfl⟩ := hw
          obtain ⟨x24, rfl⟩ : ∃ q, q = r := ⟨_, rfl⟩
          have h25 := hrs
          refine tSI (As := [.int p2, .int x24]) (rest := []) ⟨hx, hb, hml, hown, hts⟩ hK hE hP hD hS hA hAB (s_X9_bit_0 l B0 adK adV D cy ad f p2 x24 (by omega) _) (va_cwS 2 hts gX9_borne_X9_bit rfl rfl rfl (by decide +kernel) ⟨Nat.le_of_ble_eq_true rfl, Nat.le_of_ble_eq_true rfl⟩) rfl hl.1 rfl (Nat.le_of_ble_eq_true rfl) dX9_borne_31 ⟨Nat.le_of_ble_eq_true rfl, Nat.le_of_ble_eq_true rfl⟩ (fun r g H locs hw hP hD hS => ?_)
          obtain ⟨hrs, rfl⟩ := hw
          obtain ⟨x26, rfl⟩ : ∃ q, q = r := ⟨_, rfl⟩
          rcases hrs with ⟨rfl, h27⟩ | ⟨rfl, h28⟩
          · refine lv_if_eq (tgt := 47) hx hb dX9_borne_34 (by decide) (fun c => absurd c (by decide)) (fun _ => ?_)
            refine lv_iload_n hx hb dX9_borne_37 rfl (lv_at hl 1 rfl) ?_
            refine lv_aload_n hx hb dX9_borne_38 rfl (lv_at hl 2 rfl) ?_
            refine va_get (D := D) (cl := vwCl) (ci := 9) (v := .ref (ad 171)) (C := RX9) (T := TX9) (N := 64) hx hb hts in_X9_borne_X9 hown hK hP 148 (wl_at (by decide) e17) rfl 42 (by decide) (hts (.fieldLink RX9 88 "EightReasonsModel" "weightOf" "[I") (List.mem_of_getElem? (i := 1) rfl)) (fun _ h9 => h9) rfl dX9_borne_39 ?_
            refine lv_iload hx hb dX9_borne_42 (lv_at hl 0 rfl) ?_
            obtain ⟨g30, e29⟩ := (show okI cy 12 (f 171) from hT.1 171 (by decide))
            refine va_iald hx hb hK hP 171 0 (wl_at (by decide) e29) rfl (vp_in_iff.mpr ⟨by omega, by omega⟩) dX9_borne_44 ?_
            refine lv_topi (fun x31 ex31 => ?_)
            refine lv_iadd hx hb dX9_borne_45 ?_
            refine lv_topi (fun x32 ex32 => ?_)
            refine lv_istore_n (lv' := [(3, .int x32), (4, .int v5_l4), (0, .ref (ad 148)), (1, .int p1), (2, .int p2)]) hx hb dX9_borne_46 rfl hl (by decide) rfl (fun ls hl => ?_)
            exact j47 H locs ls x32 (by omega) (by omega) (by omega) hP hD hS (lv_sub hl [1, 0, 2, 3, 4] rfl)
          · refine lv_if_eq (tgt := 47) hx hb dX9_borne_34 (by decide) (fun _ => ?_) (fun c => absurd (by decide) c)
            exact j47 H locs ls v5_l3 (by omega) (by omega) (by omega) hP hD hS (lv_sub hl [0, 1, 2, 3, 4] rfl)
  refine lv_iconst (v := 0) hx hb dX9_borne_0 (by decide) ?_
  refine lv_istore_n (lv' := [(3, .int 0), (0, .ref (ad 148)), (1, .int p1), (2, .int p2)]) hx hb dX9_borne_1 rfl hl (by decide) rfl (fun ls hl => ?_)
  refine lv_iconst (v := 0) hx hb dX9_borne_2 (by decide) ?_
  refine lv_istore (lv' := [(4, .int 0), (3, .int 0), (0, .ref (ad 148)), (1, .int p1), (2, .int p2)]) hx hb dX9_borne_3 hl (by decide) rfl (fun ls hl => ?_)
  have ttl_0 := tl_0
  exact j5 (Int.toNat (13 - (0 : Int32).toInt)) H locs ls (0 : Int32) (0 : Int32) (by omega) (by omega) (by omega) (by omega) hP hD hS (lv_sub hl [0, 1, 2, 3, 4] rfl)
set_option maxHeartbeats 4000000 in
set_option maxRecDepth 100000 in
theorem s_X9_isClaim_0 (l : Launch) (B0 : Nat) (adK adV : Nat → Nat) (D : va_G) (cy : Nat → ClassId) (ad : Nat → Nat) (fr0 : Nat → va_E) (c_text : Nat → Int32) (m_taped : Int32) (m_size : Int32) (m_faultKind : Int32) (m_faultPlace : Int32) (m_at : Int32) (m_end : Int32) (m_token : Int32) (m_number : Int32) (m_name : Int64) (c_points : Nat → Int32) (c_strands : Nat → Int32) (c_units : Nat → Int32) (c_told : Nat → Int32) (c_ruleFrom : Nat → Int32) (c_ruleTo : Nat → Int32) (c_code : Nat → Int32) (c_eWhat : Nat → Int32) (c_eSign : Nat → Int32) (m_bank : Int32) (m_rb : Int32) (m_codes : Int32) (m_within : Int32) (m_piled : Int32) (m_unitsInRule : Int32) (m_askStrand : Int32) (m_askTied : Int32) (m_thoughtClaim : Int32) (m_thoughtNeed : Int32) (m_thoughtAll : Int32) (c_roundOf : Nat → Int32) (m_acts : Int32) (m_undone : Int32) (m_laid : Int32) (m_firstMove : Int32) (m_seens : Int32) (m_time : Int32) (m_waysNow : Int32) (m_fitting : Int32) (f : Nat → va_E) (hT : TYm ad cy fr0 c_text m_taped m_size m_faultKind m_faultPlace m_at m_end m_token m_number m_name c_points c_strands c_units c_told c_ruleFrom c_ruleTo c_code c_eWhat c_eSign m_bank m_rb m_codes m_within m_piled m_unitsInRule m_askStrand m_askTied m_thoughtClaim m_thoughtNeed m_thoughtAll c_roundOf m_acts m_undone m_laid m_firstMove m_seens m_time m_waysNow m_fitting f) (p1 : Int32) (sz : Nat) : TtI l yX9_isClaim wsX9_isClaim 2 43 [.ref (ad 148), .int p1] B0 adK adV D cy ad f sz (fun (r : Int32) (g : Nat → va_E) => ((r = 1 ∧ 0 ≤ p1.toInt ∧ p1.toInt ≤ 9) ∨ (r = 0)) ∧ (f = g)) := by
  refine TtI.of (cc := cX9_isClaim) (maxL := 2) (ty := .boolean) (own := RX9) (by decide) rfl (Nat.le_of_ble_eq_true rfl) rfl ?_
  intro p e s m below meth c A ls hx hb hr hml hts hown hlk hK hE hP hD hS hA hAB hl
  have hl : lv_has ls 2 [(0, .ref (ad 148)), (1, .int p1)] := hl
  refine st0 (fun H locs hP hS => ?_) hP hS
  refine lv_aload_n hx hb dX9_isClaim_0 rfl (lv_at hl 0 rfl) ?_
  refine lv_iload_n hx hb dX9_isClaim_1 rfl (lv_at hl 1 rfl) ?_
  obtain ⟨e16, h1, h2, h3, h4, h5, h6, h7, h8, h9, h10, h11, h12, h13, h14, h15⟩ := (show okX9 ad m_taped m_size m_faultKind m_faultPlace m_at m_end m_token m_number m_name m_bank m_rb m_codes m_within m_piled m_unitsInRule m_askStrand m_askTied m_thoughtClaim m_thoughtNeed m_thoughtAll m_acts m_undone m_laid m_firstMove m_seens m_time m_waysNow m_fitting 148 (f 148) from hT.1 148 (by decide))
  refine tVI (As := [.int p1]) (rest := []) (i := 148) ⟨hx, hb, hml, hown, hts⟩ hK hE hP hD hS hA hAB (s_X9_isPoint_0 l B0 adK adV D cy ad fr0 c_text m_taped m_size m_faultKind m_faultPlace m_at m_end m_token m_number m_name c_points c_strands c_units c_told c_ruleFrom c_ruleTo c_code c_eWhat c_eSign m_bank m_rb m_codes m_within m_piled m_unitsInRule m_askStrand m_askTied m_thoughtClaim m_thoughtNeed m_thoughtAll c_roundOf m_acts m_undone m_laid m_firstMove m_seens m_time m_waysNow m_fitting f hT p1 _) (cwV 1 hts gX9_isClaim_X9_isPoint rfl rfl rfl (by decide +kernel) ⟨Nat.le_of_ble_eq_true rfl, Nat.le_of_ble_eq_true rfl⟩) (by decide) 9 e16 rfl rfl hl.1 rfl (Nat.le_of_ble_eq_true rfl) dX9_isClaim_2 ⟨Nat.le_of_ble_eq_true rfl, Nat.le_of_ble_eq_true rfl⟩ (fun r g H locs hw hP hD hS => ?_)
  obtain ⟨hrs, rfl⟩ := hw
  obtain ⟨x17, rfl⟩ : ∃ q, q = r := ⟨_, rfl⟩
  rcases hrs with ⟨rfl, h18, h19⟩ | rfl
  · refine lv_if_eq (tgt := 29) hx hb dX9_isClaim_5 (by decide) (fun c => absurd c (by decide)) (fun _ => ?_)
    refine lv_aload_n hx hb dX9_isClaim_8 rfl (lv_at hl 0 rfl) ?_
    refine va_get (D := D) (cl := vwCl) (ci := 9) (v := .ref (ad 157)) (C := RX9) (T := TX9) (N := 64) hx hb hts in_X9_isClaim_X9 hown hK hP 148 (wl_at (by decide) e16) rfl 17 (by decide) (hts (.fieldLink RX9 39 "EightReasonsModel" "needs" "[I") (List.mem_of_getElem? (i := 1) rfl)) (fun _ h9 => h9) rfl dX9_isClaim_9 ?_
    refine lv_bipush (v := 10) hx hb dX9_isClaim_12 (by decide) ?_
    refine lv_aload_n hx hb dX9_isClaim_14 rfl (lv_at hl 0 rfl) ?_
    refine va_get (D := D) (cl := vwCl) (ci := 9) (v := .int m_bank) (C := RX9) (T := TX9) (N := 64) hx hb hts in_X9_isClaim_X9 hown hK hP 148 (wl_at (by decide) e16) rfl 29 (by decide) (hts (.fieldLink RX9 239 "EightReasonsModel" "bank" "I") (List.mem_of_getElem? (i := 2) rfl)) (fun _ h9 => h9) rfl dX9_isClaim_15 ?_
    refine lv_imul hx hb dX9_isClaim_18 ?_
    refine lv_topi (fun x20 ex20 => ?_)
    have hx20 := r_mull ex20 tl_10 (by omega) (by omega)
    refine lv_iload_n hx hb dX9_isClaim_19 rfl (lv_at hl 1 rfl) ?_
    refine lv_iadd hx hb dX9_isClaim_20 ?_
    refine lv_topi (fun x21 ex21 => ?_)
    have hx21 := r_add ex21 (by omega) (by omega)
    obtain ⟨g23, e22⟩ := (show okI cy 20 (f 157) from hT.1 157 (by decide))
    refine va_iald hx hb hK hP 157 0 (wl_at (by decide) e22) rfl (vp_in_iff.mpr ⟨by omega, by omega⟩) dX9_isClaim_21 ?_
    refine lv_topi (fun x24 ex24 => ?_)
    have ttl_0 := tl_0
    refine lv_if_le (tgt := 29) hx hb dX9_isClaim_22 (by decide) (fun c25 => ?_) (fun c25 => ?_)
    · have kc25 := c_le c25
      refine lv_iconst (v := 0) hx hb dX9_isClaim_29 (by decide) ?_
      exact tI hx hb hr hlk rfl hP hS ⟨(Or.inr rfl), rfl⟩ dX9_isClaim_30
    · have kc25 := c_nle c25
      refine lv_iconst (v := 1) hx hb dX9_isClaim_25 (by decide) ?_
      refine lv_goto (tgt := 30) hx hb dX9_isClaim_26 (by decide) ?_
      have ttl_1 := tl_1
      exact tI hx hb hr hlk rfl hP hS ⟨(Or.inl ⟨rfl, by omega, by omega⟩), rfl⟩ dX9_isClaim_30
  · refine lv_if_eq (tgt := 29) hx hb dX9_isClaim_5 (by decide) (fun _ => ?_) (fun c => absurd (by decide) c)
    refine lv_iconst (v := 0) hx hb dX9_isClaim_29 (by decide) ?_
    have ttl_0 := tl_0
    exact tI hx hb hr hlk rfl hP hS ⟨(Or.inr rfl), rfl⟩ dX9_isClaim_30
set_option maxHeartbeats 4000000 in
set_option maxRecDepth 100000 in
theorem s_X9_standBy_0 (l : Launch) (B0 : Nat) (adK adV : Nat → Nat) (D : va_G) (cy : Nat → ClassId) (ad : Nat → Nat) (fr0 : Nat → va_E) (c_text : Nat → Int32) (m_taped : Int32) (m_size : Int32) (m_faultKind : Int32) (m_faultPlace : Int32) (m_at : Int32) (m_end : Int32) (m_token : Int32) (m_number : Int32) (m_name : Int64) (c_points : Nat → Int32) (c_strands : Nat → Int32) (c_units : Nat → Int32) (c_told : Nat → Int32) (c_ruleFrom : Nat → Int32) (c_ruleTo : Nat → Int32) (c_code : Nat → Int32) (c_eWhat : Nat → Int32) (c_eSign : Nat → Int32) (m_bank : Int32) (m_rb : Int32) (m_codes : Int32) (m_within : Int32) (m_piled : Int32) (m_unitsInRule : Int32) (m_askStrand : Int32) (m_askTied : Int32) (m_thoughtClaim : Int32) (m_thoughtNeed : Int32) (m_thoughtAll : Int32) (c_roundOf : Nat → Int32) (m_acts : Int32) (m_undone : Int32) (m_laid : Int32) (m_firstMove : Int32) (m_seens : Int32) (m_time : Int32) (m_waysNow : Int32) (m_fitting : Int32) (f : Nat → va_E) (hT : TYm ad cy fr0 c_text m_taped m_size m_faultKind m_faultPlace m_at m_end m_token m_number m_name c_points c_strands c_units c_told c_ruleFrom c_ruleTo c_code c_eWhat c_eSign m_bank m_rb m_codes m_within m_piled m_unitsInRule m_askStrand m_askTied m_thoughtClaim m_thoughtNeed m_thoughtAll c_roundOf m_acts m_undone m_laid m_firstMove m_seens m_time m_waysNow m_fitting f) (p1 : Int32) (p2 : Int32) (hp2 : 0 ≤ p2.toInt ∧ p2.toInt ≤ 4095) (hCV : CVp c_told c_ruleFrom c_ruleTo c_code m_bank) (sz : Nat) : TtI l yX9_standBy wsX9_standBy 5 112 [.ref (ad 148), .int p1, .int p2] B0 adK adV D cy ad f sz (fun (r : Int32) (g : Nat → va_E) => (0 ≤ r.toInt ∧ r.toInt ≤ 4095) ∧ (∃ (m_askStrand' : Int32) (m_askTied' : Int32) (c_roundOf' : Nat → Int32), TYm ad cy fr0 c_text m_taped m_size m_faultKind m_faultPlace m_at m_end m_token m_number m_name c_points c_strands c_units c_told c_ruleFrom c_ruleTo c_code c_eWhat c_eSign m_bank m_rb m_codes m_within m_piled m_unitsInRule m_askStrand' m_askTied' m_thoughtClaim m_thoughtNeed m_thoughtAll c_roundOf' m_acts m_undone m_laid m_firstMove m_seens m_time m_waysNow m_fitting g ∧ (0 ≤ m_askTied'.toInt ∧ m_askTied'.toInt ≤ 4095))) := by
  refine TtI.of (cc := cX9_standBy) (maxL := 7) (ty := .int) (own := RX9) (by decide) rfl (Nat.le_of_ble_eq_true rfl) rfl ?_
  intro p e s m below meth c A ls hx hb hr hml hts hown hlk hK hE hP hD hS hA hAB hl
  have hl : lv_has ls 7 [(0, .ref (ad 148)), (1, .int p1), (2, .int p2)] := hl
  refine st0 (fun H locs hP hS => ?_) hP hS
  have j56 : ∀ (N : Nat) (f : Nat → va_E) (H : Heap) (locs : List Loc) (ls : Array Slot) (v56_l4 : Int32) (v56_l3 : Int32) (v56_p_m_askStrand : Int32) (v56_p_m_askTied : Int32) (v56_p_c_roundOf : Nat → Int32), (12 - v56_l4.toInt ≤ (N : Int)) → (1 ≤ v56_l4.toInt ∧ v56_l4.toInt ≤ 11) → (0 ≤ v56_l3.toInt ∧ v56_l3.toInt ≤ 4095) → (0 ≤ p2.toInt ∧ p2.toInt ≤ 4095) → (0 ≤ v56_p_m_askTied.toInt ∧ v56_p_m_askTied.toInt ≤ 4095) → (TYm ad cy fr0 c_text m_taped m_size m_faultKind m_faultPlace m_at m_end m_token m_number m_name c_points c_strands c_units c_told c_ruleFrom c_ruleTo c_code c_eWhat c_eSign m_bank m_rb m_codes m_within m_piled m_unitsInRule v56_p_m_askStrand v56_p_m_askTied m_thoughtClaim m_thoughtNeed m_thoughtAll v56_p_c_roundOf m_acts m_undone m_laid m_firstMove m_seens m_time m_waysNow m_fitting f) → (va_P D vwCl (wl ad f) H) → (va_D A (wl ad f)) → (va_S A s.heap H locs) → (lv_has ls 7 [(4, .int v56_l4), (3, .int v56_l3), (0, .ref (ad 148)), (1, .int p1), (2, .int p2)]) → W p l e (rmO 5 112 0 0) s m ([.ref (ad 148), .int p1, .int p2] : List Value).toArray below meth c H locs 0 0 (MQ below (va_Qi (fun (r : Int32) (g : Nat → va_E) => (0 ≤ r.toInt ∧ r.toInt ≤ 4095) ∧ (∃ (m_askStrand' : Int32) (m_askTied' : Int32) (c_roundOf' : Nat → Int32), TYm ad cy fr0 c_text m_taped m_size m_faultKind m_faultPlace m_at m_end m_token m_number m_name c_points c_strands c_units c_told c_ruleFrom c_ruleTo c_code c_eWhat c_eSign m_bank m_rb m_codes m_within m_piled m_unitsInRule m_askStrand' m_askTied' m_thoughtClaim m_thoughtNeed m_thoughtAll c_roundOf' m_acts m_undone m_laid m_firstMove m_seens m_time m_waysNow m_fitting g ∧ (0 ≤ m_askTied'.toInt ∧ m_askTied'.toInt ≤ 4095))) (fun g t => PstT D ad g t) A) ([.ref (ad 148), .int p1, .int p2] : List Value).toArray s 0 0 A) (F0 m 56 ls []) := by
    intro N
    induction N with
    | zero => intro f H locs ls v56_l4 v56_l3 v56_p_m_askStrand v56_p_m_askTied v56_p_c_roundOf hN hv56_l4 hv56_l3 hv56_l2 hv56_p_m_askTied hT hP hD hS hl; exact absurd hN (by omega)
    | succ N ih56 =>
      intro f H locs ls v56_l4 v56_l3 v56_p_m_askStrand v56_p_m_askTied v56_p_c_roundOf hN hv56_l4 hv56_l3 hv56_l2 hv56_p_m_askTied hT hP hD hS hl
      have j71 : ∀ (N : Nat) (f : Nat → va_E) (H : Heap) (locs : List Loc) (ls : Array Slot) (v71_l6 : Int32) (v71_l5 : Int32) (v71_p_c_roundOf : Nat → Int32), (11 - v71_l6.toInt ≤ (N : Int)) → (0 ≤ v71_l6.toInt ∧ v71_l6.toInt ≤ 10) → (0 ≤ v71_l5.toInt ∧ v71_l5.toInt ≤ 4095) → (1 ≤ v56_l4.toInt ∧ v56_l4.toInt ≤ 10) → (0 ≤ v56_l3.toInt ∧ v56_l3.toInt ≤ 4095) → (0 ≤ p2.toInt ∧ p2.toInt ≤ 4095) → (0 ≤ v56_p_m_askTied.toInt ∧ v56_p_m_askTied.toInt ≤ 4095) → (TYm ad cy fr0 c_text m_taped m_size m_faultKind m_faultPlace m_at m_end m_token m_number m_name c_points c_strands c_units c_told c_ruleFrom c_ruleTo c_code c_eWhat c_eSign m_bank m_rb m_codes m_within m_piled m_unitsInRule v56_p_m_askStrand v56_p_m_askTied m_thoughtClaim m_thoughtNeed m_thoughtAll v71_p_c_roundOf m_acts m_undone m_laid m_firstMove m_seens m_time m_waysNow m_fitting f) → (va_P D vwCl (wl ad f) H) → (va_D A (wl ad f)) → (va_S A s.heap H locs) → (lv_has ls 7 [(6, .int v71_l6), (5, .int v71_l5), (4, .int v56_l4), (3, .int v56_l3), (0, .ref (ad 148)), (1, .int p1), (2, .int p2)]) → W p l e (rmO 5 112 0 0) s m ([.ref (ad 148), .int p1, .int p2] : List Value).toArray below meth c H locs 0 0 (MQ below (va_Qi (fun (r : Int32) (g : Nat → va_E) => (0 ≤ r.toInt ∧ r.toInt ≤ 4095) ∧ (∃ (m_askStrand' : Int32) (m_askTied' : Int32) (c_roundOf' : Nat → Int32), TYm ad cy fr0 c_text m_taped m_size m_faultKind m_faultPlace m_at m_end m_token m_number m_name c_points c_strands c_units c_told c_ruleFrom c_ruleTo c_code c_eWhat c_eSign m_bank m_rb m_codes m_within m_piled m_unitsInRule m_askStrand' m_askTied' m_thoughtClaim m_thoughtNeed m_thoughtAll c_roundOf' m_acts m_undone m_laid m_firstMove m_seens m_time m_waysNow m_fitting g ∧ (0 ≤ m_askTied'.toInt ∧ m_askTied'.toInt ≤ 4095))) (fun g t => PstT D ad g t) A) ([.ref (ad 148), .int p1, .int p2] : List Value).toArray s 0 0 A) (F0 m 71 ls []) := by
        intro N
        induction N with
        | zero => intro f H locs ls v71_l6 v71_l5 v71_p_c_roundOf hN hv71_l6 hv71_l5 hv71_l4 hv71_l3 hv71_l2 hv71_p_m_askTied hT hP hD hS hl; exact absurd hN (by omega)
        | succ N ih71 =>
          intro f H locs ls v71_l6 v71_l5 v71_p_c_roundOf hN hv71_l6 hv71_l5 hv71_l4 hv71_l3 hv71_l2 hv71_p_m_askTied hT hP hD hS hl
          have j135 : ∀ (f : Nat → va_E) (H : Heap) (locs : List Loc) (ls : Array Slot) (v135_l5 : Int32) (v135_p_c_roundOf : Nat → Int32), (0 ≤ v71_l6.toInt ∧ v71_l6.toInt ≤ 9) → (0 ≤ v135_l5.toInt ∧ v135_l5.toInt ≤ 4095) → (1 ≤ v56_l4.toInt ∧ v56_l4.toInt ≤ 10) → (0 ≤ v56_l3.toInt ∧ v56_l3.toInt ≤ 4095) → (0 ≤ p2.toInt ∧ p2.toInt ≤ 4095) → (0 ≤ v56_p_m_askTied.toInt ∧ v56_p_m_askTied.toInt ≤ 4095) → (TYm ad cy fr0 c_text m_taped m_size m_faultKind m_faultPlace m_at m_end m_token m_number m_name c_points c_strands c_units c_told c_ruleFrom c_ruleTo c_code c_eWhat c_eSign m_bank m_rb m_codes m_within m_piled m_unitsInRule v56_p_m_askStrand v56_p_m_askTied m_thoughtClaim m_thoughtNeed m_thoughtAll v135_p_c_roundOf m_acts m_undone m_laid m_firstMove m_seens m_time m_waysNow m_fitting f) → (va_P D vwCl (wl ad f) H) → (va_D A (wl ad f)) → (va_S A s.heap H locs) → (lv_has ls 7 [(6, .int v71_l6), (5, .int v135_l5), (4, .int v56_l4), (3, .int v56_l3), (0, .ref (ad 148)), (1, .int p1), (2, .int p2)]) → W p l e (rmO 5 112 0 0) s m ([.ref (ad 148), .int p1, .int p2] : List Value).toArray below meth c H locs 0 0 (MQ below (va_Qi (fun (r : Int32) (g : Nat → va_E) => (0 ≤ r.toInt ∧ r.toInt ≤ 4095) ∧ (∃ (m_askStrand' : Int32) (m_askTied' : Int32) (c_roundOf' : Nat → Int32), TYm ad cy fr0 c_text m_taped m_size m_faultKind m_faultPlace m_at m_end m_token m_number m_name c_points c_strands c_units c_told c_ruleFrom c_ruleTo c_code c_eWhat c_eSign m_bank m_rb m_codes m_within m_piled m_unitsInRule m_askStrand' m_askTied' m_thoughtClaim m_thoughtNeed m_thoughtAll c_roundOf' m_acts m_undone m_laid m_firstMove m_seens m_time m_waysNow m_fitting g ∧ (0 ≤ m_askTied'.toInt ∧ m_askTied'.toInt ≤ 4095))) (fun g t => PstT D ad g t) A) ([.ref (ad 148), .int p1, .int p2] : List Value).toArray s 0 0 A) (F0 m 135 ls []) := by
            intro f H locs ls v135_l5 v135_p_c_roundOf hv135_l6 hv135_l5 hv135_l4 hv135_l3 hv135_l2 hv135_p_m_askTied hT hP hD hS hl
            obtain ⟨x1, ex1⟩ : ∃ q : Int32, q = v71_l6 + Int32.ofInt (1) := ⟨_, rfl⟩
            refine lv_iinc (v := x1) (lv' := [(6, .int x1), (5, .int v135_l5), (4, .int v56_l4), (3, .int v56_l3), (0, .ref (ad 148)), (1, .int p1), (2, .int p2)]) hx hb dX9_standBy_135 hl (k := 0) rfl ex1.symm (by decide) rfl (fun ls hl => ?_)
            have hx1 := r_inc ex1 (by decide) (by omega) (by omega)
            refine lv_goto (tgt := 71) hx hb dX9_standBy_138 (by decide) ?_
            exact ih71 f H locs ls x1 v135_l5 v135_p_c_roundOf (by omega) (by omega) (by omega) (by omega) (by omega) (by omega) (by omega) hT hP hD hS (lv_sub hl [0, 1, 2, 3, 4, 5, 6] rfl)
          refine lv_iload hx hb dX9_standBy_71 (lv_at hl 0 rfl) ?_
          refine lv_aload_n hx hb dX9_standBy_73 rfl (lv_at hl 4 rfl) ?_
          obtain ⟨e17, h2, h3, h4, h5, h6, h7, h8, h9, h10, h11, h12, h13, h14, h15, h16⟩ := (show okX9 ad m_taped m_size m_faultKind m_faultPlace m_at m_end m_token m_number m_name m_bank m_rb m_codes m_within m_piled m_unitsInRule v56_p_m_askStrand v56_p_m_askTied m_thoughtClaim m_thoughtNeed m_thoughtAll m_acts m_undone m_laid m_firstMove m_seens m_time m_waysNow m_fitting 148 (f 148) from hT.1 148 (by decide))
          refine tVI (As := []) (rest := [.int v71_l6]) (i := 148) ⟨hx, hb, hml, hown, hts⟩ hK hE hP hD hS hA hAB (s_X9_many_0 l B0 adK adV D cy ad fr0 c_text m_taped m_size m_faultKind m_faultPlace m_at m_end m_token m_number m_name c_points c_strands c_units c_told c_ruleFrom c_ruleTo c_code c_eWhat c_eSign m_bank m_rb m_codes m_within m_piled m_unitsInRule v56_p_m_askStrand v56_p_m_askTied m_thoughtClaim m_thoughtNeed m_thoughtAll v71_p_c_roundOf m_acts m_undone m_laid m_firstMove m_seens m_time m_waysNow m_fitting f hT _) (cwV 0 hts gX9_standBy_X9_many rfl rfl rfl (by decide +kernel) ⟨Nat.le_of_ble_eq_true rfl, Nat.le_of_ble_eq_true rfl⟩) (by decide) 9 e17 rfl rfl hl.1 rfl (Nat.le_of_ble_eq_true rfl) dX9_standBy_74 ⟨Nat.le_of_ble_eq_true rfl, Nat.le_of_ble_eq_true rfl⟩ (fun r g H locs hw hP hD hS => ?_)
          obtain ⟨hrs, rfl⟩ := hw
          obtain ⟨x18, rfl⟩ : ∃ q, q = r := ⟨_, rfl⟩
          have h19 := hrs
          refine lv_icmp_ge (tgt := 141) hx hb dX9_standBy_77 (by decide) (fun c20 => ?_) (fun c20 => ?_)
          · have kc20 := c_le c20
            refine lv_iload hx hb dX9_standBy_141 (lv_at hl 1 rfl) ?_
            refine lv_istore_n (lv' := [(3, .int v71_l5), (6, .int v71_l6), (5, .int v71_l5), (4, .int v56_l4), (0, .ref (ad 148)), (1, .int p1), (2, .int p2)]) hx hb dX9_standBy_143 rfl hl (by decide) rfl (fun ls hl => ?_)
            obtain ⟨x21, ex21⟩ : ∃ q : Int32, q = v56_l4 + Int32.ofInt (1) := ⟨_, rfl⟩
            refine lv_iinc (v := x21) (lv' := [(4, .int x21), (3, .int v71_l5), (6, .int v71_l6), (5, .int v71_l5), (0, .ref (ad 148)), (1, .int p1), (2, .int p2)]) hx hb dX9_standBy_144 hl (k := 3) rfl ex21.symm (by decide) rfl (fun ls hl => ?_)
            have hx21 := r_inc ex21 (by decide) (by omega) (by omega)
            refine lv_goto (tgt := 56) hx hb dX9_standBy_147 (by decide) ?_
            exact ih56 f H locs ls x21 v71_l5 v56_p_m_askStrand v56_p_m_askTied v71_p_c_roundOf (by omega) (by omega) (by omega) (by omega) (by omega) hT hP hD hS (lv_sub hl [0, 1, 4, 5, 6] rfl)
          · have kc20 := c_nle c20
            refine lv_aload_n hx hb dX9_standBy_80 rfl (lv_at hl 4 rfl) ?_
            refine lv_iload hx hb dX9_standBy_81 (lv_at hl 0 rfl) ?_
            refine tVI (As := [.int v71_l6]) (rest := []) (i := 148) ⟨hx, hb, hml, hown, hts⟩ hK hE hP hD hS hA hAB (s_X9_isClaim_0 l B0 adK adV D cy ad fr0 c_text m_taped m_size m_faultKind m_faultPlace m_at m_end m_token m_number m_name c_points c_strands c_units c_told c_ruleFrom c_ruleTo c_code c_eWhat c_eSign m_bank m_rb m_codes m_within m_piled m_unitsInRule v56_p_m_askStrand v56_p_m_askTied m_thoughtClaim m_thoughtNeed m_thoughtAll v71_p_c_roundOf m_acts m_undone m_laid m_firstMove m_seens m_time m_waysNow m_fitting f hT v71_l6 _) (cwV 1 hts gX9_standBy_X9_isClaim rfl rfl rfl (by decide +kernel) ⟨Nat.le_of_ble_eq_true rfl, Nat.le_of_ble_eq_true rfl⟩) (by decide) 9 e17 rfl rfl hl.1 rfl (Nat.le_of_ble_eq_true rfl) dX9_standBy_83 ⟨Nat.le_of_ble_eq_true rfl, Nat.le_of_ble_eq_true rfl⟩ (fun r g H locs hw hP hD hS => ?_)
            obtain ⟨hrs, rfl⟩ := hw
            obtain ⟨x22, rfl⟩ : ∃ q, q = r := ⟨_, rfl⟩
            rcases hrs with ⟨rfl, h23, h24⟩ | rfl
            · refine lv_if_eq (tgt := 135) hx hb dX9_standBy_86 (by decide) (fun c => absurd c (by decide)) (fun _ => ?_)
              refine lv_iload_n hx hb dX9_standBy_89 rfl (lv_at hl 3 rfl) ?_
              refine lv_iload hx hb dX9_standBy_90 (lv_at hl 0 rfl) ?_
              refine tSI (As := [.int v56_l3, .int v71_l6]) (rest := []) ⟨hx, hb, hml, hown, hts⟩ hK hE hP hD hS hA hAB (s_X9_bit_0 l B0 adK adV D cy ad f v56_l3 v71_l6 (by omega) _) (va_cwS 2 hts gX9_standBy_X9_bit rfl rfl rfl (by decide +kernel) ⟨Nat.le_of_ble_eq_true rfl, Nat.le_of_ble_eq_true rfl⟩) rfl hl.1 rfl (Nat.le_of_ble_eq_true rfl) dX9_standBy_92 ⟨Nat.le_of_ble_eq_true rfl, Nat.le_of_ble_eq_true rfl⟩ (fun r g H locs hw hP hD hS => ?_)
              obtain ⟨hrs, rfl⟩ := hw
              obtain ⟨x25, rfl⟩ : ∃ q, q = r := ⟨_, rfl⟩
              rcases hrs with ⟨rfl, h26⟩ | ⟨rfl, h27⟩
              · refine lv_if_ne (tgt := 135) hx hb dX9_standBy_95 (by decide) (fun _ => ?_) (fun c => absurd c (by decide))
                exact j135 f H locs ls v71_l5 v71_p_c_roundOf (by omega) (by omega) (by omega) (by omega) (by omega) (by omega) hT hP hD hS (lv_sub hl [0, 1, 2, 3, 4, 5, 6] rfl)
              · refine lv_if_ne (tgt := 135) hx hb dX9_standBy_95 (by decide) (fun c => absurd (by decide) c) (fun _ => ?_)
                refine lv_aload_n hx hb dX9_standBy_98 rfl (lv_at hl 4 rfl) ?_
                refine lv_iload hx hb dX9_standBy_99 (lv_at hl 0 rfl) ?_
                refine lv_iload_n hx hb dX9_standBy_101 rfl (lv_at hl 3 rfl) ?_
                refine tVI (As := [.int v71_l6, .int v56_l3]) (rest := []) (i := 148) ⟨hx, hb, hml, hown, hts⟩ hK hE hP hD hS hA hAB (s_X9_borne_0 l B0 adK adV D cy ad fr0 c_text m_taped m_size m_faultKind m_faultPlace m_at m_end m_token m_number m_name c_points c_strands c_units c_told c_ruleFrom c_ruleTo c_code c_eWhat c_eSign m_bank m_rb m_codes m_within m_piled m_unitsInRule v56_p_m_askStrand v56_p_m_askTied m_thoughtClaim m_thoughtNeed m_thoughtAll v71_p_c_roundOf m_acts m_undone m_laid m_firstMove m_seens m_time m_waysNow m_fitting f hT v71_l6 (by omega) v56_l3 (by omega) _) (cwV 2 hts gX9_standBy_X9_borne rfl rfl rfl (by decide +kernel) ⟨Nat.le_of_ble_eq_true rfl, Nat.le_of_ble_eq_true rfl⟩) (by decide) 9 e17 rfl rfl hl.1 rfl (Nat.le_of_ble_eq_true rfl) dX9_standBy_102 ⟨Nat.le_of_ble_eq_true rfl, Nat.le_of_ble_eq_true rfl⟩ (fun r g H locs hw hP hD hS => ?_)
                obtain ⟨hrs, rfl⟩ := hw
                obtain ⟨x28, rfl⟩ : ∃ q, q = r := ⟨_, rfl⟩
                have h29 := hrs
                refine lv_aload_n hx hb dX9_standBy_105 rfl (lv_at hl 4 rfl) ?_
                refine lv_iload hx hb dX9_standBy_106 (lv_at hl 0 rfl) ?_
                refine tVI (As := [.int v71_l6]) (rest := [.int x28]) (i := 148) ⟨hx, hb, hml, hown, hts⟩ hK hE hP hD hS hA hAB (s_X9_needOf_0 l B0 adK adV D cy ad fr0 c_text m_taped m_size m_faultKind m_faultPlace m_at m_end m_token m_number m_name c_points c_strands c_units c_told c_ruleFrom c_ruleTo c_code c_eWhat c_eSign m_bank m_rb m_codes m_within m_piled m_unitsInRule v56_p_m_askStrand v56_p_m_askTied m_thoughtClaim m_thoughtNeed m_thoughtAll v71_p_c_roundOf m_acts m_undone m_laid m_firstMove m_seens m_time m_waysNow m_fitting f hT v71_l6 (by omega) _) (cwV 1 hts gX9_standBy_X9_needOf rfl rfl rfl (by decide +kernel) ⟨Nat.le_of_ble_eq_true rfl, Nat.le_of_ble_eq_true rfl⟩) (by decide) 9 e17 rfl rfl hl.1 rfl (Nat.le_of_ble_eq_true rfl) dX9_standBy_108 ⟨Nat.le_of_ble_eq_true rfl, Nat.le_of_ble_eq_true rfl⟩ (fun r g H locs hw hP hD hS => ?_)
                obtain ⟨hrs, rfl⟩ := hw
                obtain ⟨x30, rfl⟩ : ∃ q, q = r := ⟨_, rfl⟩
                have h31 := hrs
                refine lv_icmp_ge (tgt := 117) hx hb dX9_standBy_111 (by decide) (fun c32 => ?_) (fun c32 => ?_)
                · have kc32 := c_le c32
                  refine lv_iload hx hb dX9_standBy_117 (lv_at hl 1 rfl) ?_
                  refine lv_iconst (v := 1) hx hb dX9_standBy_119 (by decide) ?_
                  refine lv_iload hx hb dX9_standBy_120 (lv_at hl 0 rfl) ?_
                  refine lv_ishl hx hb dX9_standBy_122 ?_
                  refine lv_topi (fun x33 ex33 => ?_)
                  have hx33 := r_shl (K := 9) (M := 512) ex33 (by decide) (by decide) (by omega) (by omega)
                  refine lv_ior hx hb dX9_standBy_123 ?_
                  refine lv_topi (fun x34 ex34 => ?_)
                  have hx34 := r_or (k := 12) (K := 4096) ex34 (by decide) (by decide) (by omega) (by omega) (by omega) (by omega)
                  refine lv_istore (lv' := [(5, .int x34), (6, .int v71_l6), (4, .int v56_l4), (3, .int v56_l3), (0, .ref (ad 148)), (1, .int p1), (2, .int p2)]) hx hb dX9_standBy_124 hl (by decide) rfl (fun ls hl => ?_)
                  refine lv_aload_n hx hb dX9_standBy_126 rfl (lv_at hl 4 rfl) ?_
                  refine va_get (D := D) (cl := vwCl) (ci := 9) (v := .ref (ad 172)) (C := RX9) (T := TX9) (N := 64) hx hb hts in_X9_standBy_X9 hown hK hP 148 (wl_at (by decide) e17) rfl 43 (by decide) (hts (.fieldLink RX9 91 "EightReasonsModel" "roundOf" "[I") (List.mem_of_getElem? (i := 1) rfl)) (fun _ h9 => h9) rfl dX9_standBy_127 ?_
                  refine lv_iload hx hb dX9_standBy_130 (lv_at hl 1 rfl) ?_
                  refine lv_iload hx hb dX9_standBy_132 (lv_at hl 2 rfl) ?_
                  have e35 : f 172 = _ := (show okIp cy 10 v71_p_c_roundOf (f 172) from hT.1 172 (by decide))
                  refine va_iast hx hb hK hP hD hS 172 0 (wl_at (by decide) e35) rfl (vp_in_iff.mpr ⟨by omega, by omega⟩) dX9_standBy_134 (fun H locs hP hD hS => ?_)
                  obtain ⟨c36, ec36⟩ : ∃ q, q = upd v71_p_c_roundOf (Int32.toNatClampNeg v71_l6) v56_l4 := ⟨_, rfl⟩
                  rw [← ec36] at hP hD
                  obtain ⟨f, hT, hP, hD, e37, hj38⟩ := stU (by decide) (TYm.p172 hT (show OKm ad cy c_text m_taped m_size m_faultKind m_faultPlace m_at m_end m_token m_number m_name c_points c_strands c_units c_told c_ruleFrom c_ruleTo c_code c_eWhat c_eSign m_bank m_rb m_codes m_within m_piled m_unitsInRule v56_p_m_askStrand v56_p_m_askTied m_thoughtClaim m_thoughtNeed m_thoughtAll c36 m_acts m_undone m_laid m_firstMove m_seens m_time m_waysNow m_fitting 172 _ from (show okIp cy 10 c36 _ from rfl))) hP hD
                  have e39 := (hj38 148 (by decide)).trans e17
                  exact j135 f H locs ls x34 c36 (by omega) (by omega) (by omega) (by omega) (by omega) (by omega) hT hP hD hS (lv_sub hl [1, 0, 2, 3, 4, 5, 6] rfl)
                · have kc32 := c_nle c32
                  refine lv_goto (tgt := 135) hx hb dX9_standBy_114 (by decide) ?_
                  exact j135 f H locs ls v71_l5 v71_p_c_roundOf (by omega) (by omega) (by omega) (by omega) (by omega) (by omega) hT hP hD hS (lv_sub hl [0, 1, 2, 3, 4, 5, 6] rfl)
            · refine lv_if_eq (tgt := 135) hx hb dX9_standBy_86 (by decide) (fun _ => ?_) (fun c => absurd (by decide) c)
              exact j135 f H locs ls v71_l5 v71_p_c_roundOf (by omega) (by omega) (by omega) (by omega) (by omega) (by omega) hT hP hD hS (lv_sub hl [0, 1, 2, 3, 4, 5, 6] rfl)
      refine lv_iload hx hb dX9_standBy_56 (lv_at hl 0 rfl) ?_
      refine lv_aload_n hx hb dX9_standBy_58 rfl (lv_at hl 2 rfl) ?_
      obtain ⟨e55, h40, h41, h42, h43, h44, h45, h46, h47, h48, h49, h50, h51, h52, h53, h54⟩ := (show okX9 ad m_taped m_size m_faultKind m_faultPlace m_at m_end m_token m_number m_name m_bank m_rb m_codes m_within m_piled m_unitsInRule v56_p_m_askStrand v56_p_m_askTied m_thoughtClaim m_thoughtNeed m_thoughtAll m_acts m_undone m_laid m_firstMove m_seens m_time m_waysNow m_fitting 148 (f 148) from hT.1 148 (by decide))
      refine tVI (As := []) (rest := [.int v56_l4]) (i := 148) ⟨hx, hb, hml, hown, hts⟩ hK hE hP hD hS hA hAB (s_X9_many_0 l B0 adK adV D cy ad fr0 c_text m_taped m_size m_faultKind m_faultPlace m_at m_end m_token m_number m_name c_points c_strands c_units c_told c_ruleFrom c_ruleTo c_code c_eWhat c_eSign m_bank m_rb m_codes m_within m_piled m_unitsInRule v56_p_m_askStrand v56_p_m_askTied m_thoughtClaim m_thoughtNeed m_thoughtAll v56_p_c_roundOf m_acts m_undone m_laid m_firstMove m_seens m_time m_waysNow m_fitting f hT _) (cwV 0 hts gX9_standBy_X9_many rfl rfl rfl (by decide +kernel) ⟨Nat.le_of_ble_eq_true rfl, Nat.le_of_ble_eq_true rfl⟩) (by decide) 9 e55 rfl rfl hl.1 rfl (Nat.le_of_ble_eq_true rfl) dX9_standBy_59 ⟨Nat.le_of_ble_eq_true rfl, Nat.le_of_ble_eq_true rfl⟩ (fun r g H locs hw hP hD hS => ?_)
      obtain ⟨hrs, rfl⟩ := hw
      obtain ⟨x56, rfl⟩ : ∃ q, q = r := ⟨_, rfl⟩
      have h57 := hrs
      refine lv_icmp_gt (tgt := 150) hx hb dX9_standBy_62 (by decide) (fun c58 => ?_) (fun c58 => ?_)
      · have kc58 := c_lt c58
        refine lv_iload_n hx hb dX9_standBy_150 rfl (lv_at hl 1 rfl) ?_
        exact tI hx hb hr hlk rfl hP hS ⟨(by omega), ⟨v56_p_m_askStrand, v56_p_m_askTied, v56_p_c_roundOf, hT, by omega⟩⟩ dX9_standBy_151
      · have kc58 := c_nlt c58
        refine lv_iload_n hx hb dX9_standBy_65 rfl (lv_at hl 1 rfl) ?_
        refine lv_istore (lv' := [(5, .int v56_l3), (4, .int v56_l4), (3, .int v56_l3), (0, .ref (ad 148)), (1, .int p1), (2, .int p2)]) hx hb dX9_standBy_66 hl (by decide) rfl (fun ls hl => ?_)
        refine lv_iconst (v := 0) hx hb dX9_standBy_68 (by decide) ?_
        refine lv_istore (lv' := [(6, .int 0), (5, .int v56_l3), (4, .int v56_l4), (3, .int v56_l3), (0, .ref (ad 148)), (1, .int p1), (2, .int p2)]) hx hb dX9_standBy_69 hl (by decide) rfl (fun ls hl => ?_)
        have ttl_0 := tl_0
        exact j71 (Int.toNat (11 - (0 : Int32).toInt)) f H locs ls (0 : Int32) v56_l3 v56_p_c_roundOf (by omega) (by omega) (by omega) (by omega) (by omega) (by omega) (by omega) hT hP hD hS (lv_sub hl [0, 1, 2, 3, 4, 5, 6] rfl)
  have j17 : ∀ (N : Nat) (f : Nat → va_E) (H : Heap) (locs : List Loc) (ls : Array Slot) (v17_l4 : Int32) (v17_l3 : Int32) (v17_p_m_askStrand : Int32) (v17_p_m_askTied : Int32) (v17_p_c_roundOf : Nat → Int32), (11 - v17_l4.toInt ≤ (N : Int)) → (0 ≤ v17_l4.toInt ∧ v17_l4.toInt ≤ 10) → (0 ≤ v17_l3.toInt ∧ v17_l3.toInt ≤ 4095) → (0 ≤ p2.toInt ∧ p2.toInt ≤ 4095) → (0 ≤ v17_p_m_askTied.toInt ∧ v17_p_m_askTied.toInt ≤ 4095) → (TYm ad cy fr0 c_text m_taped m_size m_faultKind m_faultPlace m_at m_end m_token m_number m_name c_points c_strands c_units c_told c_ruleFrom c_ruleTo c_code c_eWhat c_eSign m_bank m_rb m_codes m_within m_piled m_unitsInRule v17_p_m_askStrand v17_p_m_askTied m_thoughtClaim m_thoughtNeed m_thoughtAll v17_p_c_roundOf m_acts m_undone m_laid m_firstMove m_seens m_time m_waysNow m_fitting f) → (va_P D vwCl (wl ad f) H) → (va_D A (wl ad f)) → (va_S A s.heap H locs) → (lv_has ls 7 [(4, .int v17_l4), (3, .int v17_l3), (0, .ref (ad 148)), (1, .int p1), (2, .int p2)]) → W p l e (rmO 5 112 0 0) s m ([.ref (ad 148), .int p1, .int p2] : List Value).toArray below meth c H locs 0 0 (MQ below (va_Qi (fun (r : Int32) (g : Nat → va_E) => (0 ≤ r.toInt ∧ r.toInt ≤ 4095) ∧ (∃ (m_askStrand' : Int32) (m_askTied' : Int32) (c_roundOf' : Nat → Int32), TYm ad cy fr0 c_text m_taped m_size m_faultKind m_faultPlace m_at m_end m_token m_number m_name c_points c_strands c_units c_told c_ruleFrom c_ruleTo c_code c_eWhat c_eSign m_bank m_rb m_codes m_within m_piled m_unitsInRule m_askStrand' m_askTied' m_thoughtClaim m_thoughtNeed m_thoughtAll c_roundOf' m_acts m_undone m_laid m_firstMove m_seens m_time m_waysNow m_fitting g ∧ (0 ≤ m_askTied'.toInt ∧ m_askTied'.toInt ≤ 4095))) (fun g t => PstT D ad g t) A) ([.ref (ad 148), .int p1, .int p2] : List Value).toArray s 0 0 A) (F0 m 17 ls []) := by
    intro N
    induction N with
    | zero => intro f H locs ls v17_l4 v17_l3 v17_p_m_askStrand v17_p_m_askTied v17_p_c_roundOf hN hv17_l4 hv17_l3 hv17_l2 hv17_p_m_askTied hT hP hD hS hl; exact absurd hN (by omega)
    | succ N ih17 =>
      intro f H locs ls v17_l4 v17_l3 v17_p_m_askStrand v17_p_m_askTied v17_p_c_roundOf hN hv17_l4 hv17_l3 hv17_l2 hv17_p_m_askTied hT hP hD hS hl
      have j46 : ∀ (f : Nat → va_E) (H : Heap) (locs : List Loc) (ls : Array Slot) (v46_s2 : Int32), (0 ≤ v17_l4.toInt ∧ v17_l4.toInt ≤ 9) → (0 ≤ v17_l3.toInt ∧ v17_l3.toInt ≤ 4095) → (0 ≤ p2.toInt ∧ p2.toInt ≤ 4095) → (0 ≤ v17_l4.toInt ∧ v17_l4.toInt ≤ 9) → (-1 ≤ v46_s2.toInt ∧ v46_s2.toInt ≤ 0) → (0 ≤ v17_p_m_askTied.toInt ∧ v17_p_m_askTied.toInt ≤ 4095) → (TYm ad cy fr0 c_text m_taped m_size m_faultKind m_faultPlace m_at m_end m_token m_number m_name c_points c_strands c_units c_told c_ruleFrom c_ruleTo c_code c_eWhat c_eSign m_bank m_rb m_codes m_within m_piled m_unitsInRule v17_p_m_askStrand v17_p_m_askTied m_thoughtClaim m_thoughtNeed m_thoughtAll v17_p_c_roundOf m_acts m_undone m_laid m_firstMove m_seens m_time m_waysNow m_fitting f) → (va_P D vwCl (wl ad f) H) → (va_D A (wl ad f)) → (va_S A s.heap H locs) → (lv_has ls 7 [(4, .int v17_l4), (3, .int v17_l3), (0, .ref (ad 148)), (1, .int p1), (2, .int p2)]) → W p l e (rmO 5 112 0 0) s m ([.ref (ad 148), .int p1, .int p2] : List Value).toArray below meth c H locs 0 0 (MQ below (va_Qi (fun (r : Int32) (g : Nat → va_E) => (0 ≤ r.toInt ∧ r.toInt ≤ 4095) ∧ (∃ (m_askStrand' : Int32) (m_askTied' : Int32) (c_roundOf' : Nat → Int32), TYm ad cy fr0 c_text m_taped m_size m_faultKind m_faultPlace m_at m_end m_token m_number m_name c_points c_strands c_units c_told c_ruleFrom c_ruleTo c_code c_eWhat c_eSign m_bank m_rb m_codes m_within m_piled m_unitsInRule m_askStrand' m_askTied' m_thoughtClaim m_thoughtNeed m_thoughtAll c_roundOf' m_acts m_undone m_laid m_firstMove m_seens m_time m_waysNow m_fitting g ∧ (0 ≤ m_askTied'.toInt ∧ m_askTied'.toInt ≤ 4095))) (fun g t => PstT D ad g t) A) ([.ref (ad 148), .int p1, .int p2] : List Value).toArray s 0 0 A) (F0 m 46 ls [.int v46_s2, .int v17_l4, .ref (ad 172)]) := by
        intro f H locs ls v46_s2 hv46_l4 hv46_l3 hv46_l2 hv46_s1 hv46_s2 hv46_p_m_askTied hT hP hD hS hl
        have e59 : f 172 = _ := (show okIp cy 10 v17_p_c_roundOf (f 172) from hT.1 172 (by decide))
        refine va_iast hx hb hK hP hD hS 172 0 (wl_at (by decide) e59) rfl (vp_in_iff.mpr ⟨by omega, by omega⟩) dX9_standBy_46 (fun H locs hP hD hS => ?_)
        obtain ⟨c60, ec60⟩ : ∃ q, q = upd v17_p_c_roundOf (Int32.toNatClampNeg v17_l4) v46_s2 := ⟨_, rfl⟩
        rw [← ec60] at hP hD
        obtain ⟨f, hT, hP, hD, e61, hj62⟩ := stU (by decide) (TYm.p172 hT (show OKm ad cy c_text m_taped m_size m_faultKind m_faultPlace m_at m_end m_token m_number m_name c_points c_strands c_units c_told c_ruleFrom c_ruleTo c_code c_eWhat c_eSign m_bank m_rb m_codes m_within m_piled m_unitsInRule v17_p_m_askStrand v17_p_m_askTied m_thoughtClaim m_thoughtNeed m_thoughtAll c60 m_acts m_undone m_laid m_firstMove m_seens m_time m_waysNow m_fitting 172 _ from (show okIp cy 10 c60 _ from rfl))) hP hD
        obtain ⟨x63, ex63⟩ : ∃ q : Int32, q = v17_l4 + Int32.ofInt (1) := ⟨_, rfl⟩
        refine lv_iinc (v := x63) (lv' := [(4, .int x63), (3, .int v17_l3), (0, .ref (ad 148)), (1, .int p1), (2, .int p2)]) hx hb dX9_standBy_47 hl (k := 0) rfl ex63.symm (by decide) rfl (fun ls hl => ?_)
        have hx63 := r_inc ex63 (by decide) (by omega) (by omega)
        refine lv_goto (tgt := 17) hx hb dX9_standBy_50 (by decide) ?_
        exact ih17 f H locs ls x63 v17_l3 v17_p_m_askStrand v17_p_m_askTied c60 (by omega) (by omega) (by omega) (by omega) (by omega) hT hP hD hS (lv_sub hl [0, 1, 2, 3, 4] rfl)
      refine lv_iload hx hb dX9_standBy_17 (lv_at hl 0 rfl) ?_
      refine lv_aload_n hx hb dX9_standBy_19 rfl (lv_at hl 2 rfl) ?_
      obtain ⟨e79, h64, h65, h66, h67, h68, h69, h70, h71, h72, h73, h74, h75, h76, h77, h78⟩ := (show okX9 ad m_taped m_size m_faultKind m_faultPlace m_at m_end m_token m_number m_name m_bank m_rb m_codes m_within m_piled m_unitsInRule v17_p_m_askStrand v17_p_m_askTied m_thoughtClaim m_thoughtNeed m_thoughtAll m_acts m_undone m_laid m_firstMove m_seens m_time m_waysNow m_fitting 148 (f 148) from hT.1 148 (by decide))
      refine tVI (As := []) (rest := [.int v17_l4]) (i := 148) ⟨hx, hb, hml, hown, hts⟩ hK hE hP hD hS hA hAB (s_X9_many_0 l B0 adK adV D cy ad fr0 c_text m_taped m_size m_faultKind m_faultPlace m_at m_end m_token m_number m_name c_points c_strands c_units c_told c_ruleFrom c_ruleTo c_code c_eWhat c_eSign m_bank m_rb m_codes m_within m_piled m_unitsInRule v17_p_m_askStrand v17_p_m_askTied m_thoughtClaim m_thoughtNeed m_thoughtAll v17_p_c_roundOf m_acts m_undone m_laid m_firstMove m_seens m_time m_waysNow m_fitting f hT _) (cwV 0 hts gX9_standBy_X9_many rfl rfl rfl (by decide +kernel) ⟨Nat.le_of_ble_eq_true rfl, Nat.le_of_ble_eq_true rfl⟩) (by decide) 9 e79 rfl rfl hl.1 rfl (Nat.le_of_ble_eq_true rfl) dX9_standBy_20 ⟨Nat.le_of_ble_eq_true rfl, Nat.le_of_ble_eq_true rfl⟩ (fun r g H locs hw hP hD hS => ?_)
      obtain ⟨hrs, rfl⟩ := hw
      obtain ⟨x80, rfl⟩ : ∃ q, q = r := ⟨_, rfl⟩
      have h81 := hrs
      refine lv_icmp_ge (tgt := 53) hx hb dX9_standBy_23 (by decide) (fun c82 => ?_) (fun c82 => ?_)
      · have kc82 := c_le c82
        refine lv_iconst (v := 1) hx hb dX9_standBy_53 (by decide) ?_
        refine lv_istore (lv' := [(4, .int 1), (3, .int v17_l3), (0, .ref (ad 148)), (1, .int p1), (2, .int p2)]) hx hb dX9_standBy_54 hl (by decide) rfl (fun ls hl => ?_)
        have ttl_1 := tl_1
        exact j56 (Int.toNat (12 - (1 : Int32).toInt)) f H locs ls (1 : Int32) v17_l3 v17_p_m_askStrand v17_p_m_askTied v17_p_c_roundOf (by omega) (by omega) (by omega) (by omega) (by omega) hT hP hD hS (lv_sub hl [0, 1, 2, 3, 4] rfl)
      · have kc82 := c_nle c82
        refine lv_aload_n hx hb dX9_standBy_26 rfl (lv_at hl 2 rfl) ?_
        refine va_get (D := D) (cl := vwCl) (ci := 9) (v := .ref (ad 172)) (C := RX9) (T := TX9) (N := 64) hx hb hts in_X9_standBy_X9 hown hK hP 148 (wl_at (by decide) e79) rfl 43 (by decide) (hts (.fieldLink RX9 91 "EightReasonsModel" "roundOf" "[I") (List.mem_of_getElem? (i := 1) rfl)) (fun _ h9 => h9) rfl dX9_standBy_27 ?_
        refine lv_iload hx hb dX9_standBy_30 (lv_at hl 0 rfl) ?_
        refine lv_iload_n hx hb dX9_standBy_32 rfl (lv_at hl 1 rfl) ?_
        refine lv_iload hx hb dX9_standBy_33 (lv_at hl 0 rfl) ?_
        refine tSI (As := [.int v17_l3, .int v17_l4]) (rest := [.int v17_l4, .ref (ad 172)]) ⟨hx, hb, hml, hown, hts⟩ hK hE hP hD hS hA hAB (s_X9_bit_0 l B0 adK adV D cy ad f v17_l3 v17_l4 (by omega) _) (va_cwS 2 hts gX9_standBy_X9_bit rfl rfl rfl (by decide +kernel) ⟨Nat.le_of_ble_eq_true rfl, Nat.le_of_ble_eq_true rfl⟩) rfl hl.1 rfl (Nat.le_of_ble_eq_true rfl) dX9_standBy_35 ⟨Nat.le_of_ble_eq_true rfl, Nat.le_of_ble_eq_true rfl⟩ (fun r g H locs hw hP hD hS => ?_)
        obtain ⟨hrs, rfl⟩ := hw
        obtain ⟨x83, rfl⟩ : ∃ q, q = r := ⟨_, rfl⟩
        rcases hrs with ⟨rfl, h84⟩ | ⟨rfl, h85⟩
        · refine lv_if_eq (tgt := 45) hx hb dX9_standBy_38 (by decide) (fun c => absurd c (by decide)) (fun _ => ?_)
          refine lv_iconst (v := 0) hx hb dX9_standBy_41 (by decide) ?_
          refine lv_goto (tgt := 46) hx hb dX9_standBy_42 (by decide) ?_
          have ttl_0 := tl_0
          exact j46 f H locs ls (0 : Int32) (by omega) (by omega) (by omega) (by omega) (by omega) (by omega) hT hP hD hS (lv_sub hl [0, 1, 2, 3, 4] rfl)
        · refine lv_if_eq (tgt := 45) hx hb dX9_standBy_38 (by decide) (fun _ => ?_) (fun c => absurd (by decide) c)
          refine lv_iconst (v := (-1)) hx hb dX9_standBy_45 (by decide) ?_
          have ttl_m1 := tl_m1
          exact j46 f H locs ls ((-1) : Int32) (by omega) (by omega) (by omega) (by omega) (by omega) (by omega) hT hP hD hS (lv_sub hl [0, 1, 2, 3, 4] rfl)
  refine lv_aload_n hx hb dX9_standBy_0 rfl (lv_at hl 0 rfl) ?_
  refine lv_iload_n hx hb dX9_standBy_1 rfl (lv_at hl 2 rfl) ?_
  obtain ⟨e101, h86, h87, h88, h89, h90, h91, h92, h93, h94, h95, h96, h97, h98, h99, h100⟩ := (show okX9 ad m_taped m_size m_faultKind m_faultPlace m_at m_end m_token m_number m_name m_bank m_rb m_codes m_within m_piled m_unitsInRule m_askStrand m_askTied m_thoughtClaim m_thoughtNeed m_thoughtAll m_acts m_undone m_laid m_firstMove m_seens m_time m_waysNow m_fitting 148 (f 148) from hT.1 148 (by decide))
  refine tVV (As := [.int p2]) (rest := []) (i := 148) ⟨hx, hb, hml, hown, hts⟩ hK hE hP hD hS hA hAB (s_X9_layWeights_0 l B0 adK adV D cy ad fr0 c_text m_taped m_size m_faultKind m_faultPlace m_at m_end m_token m_number m_name c_points c_strands c_units c_told c_ruleFrom c_ruleTo c_code c_eWhat c_eSign m_bank m_rb m_codes m_within m_piled m_unitsInRule m_askStrand m_askTied m_thoughtClaim m_thoughtNeed m_thoughtAll c_roundOf m_acts m_undone m_laid m_firstMove m_seens m_time m_waysNow m_fitting f hT p2 (by omega) hCV _) (cwV 1 hts gX9_standBy_X9_layWeights rfl rfl rfl (by decide +kernel) ⟨Nat.le_of_ble_eq_true rfl, Nat.le_of_ble_eq_true rfl⟩) (by decide) 9 e101 rfl rfl hl.1 rfl (Nat.le_of_ble_eq_true rfl) dX9_standBy_2 ⟨Nat.le_of_ble_eq_true rfl, Nat.le_of_ble_eq_true rfl⟩ (fun f H locs hw hP hD hS => ?_)
  obtain ⟨hrs, x102, x103, hT, h104⟩ := hw
  refine lv_aload_n hx hb dX9_standBy_5 rfl (lv_at hl 0 rfl) ?_
  obtain ⟨e120, h105, h106, h107, h108, h109, h110, h111, h112, h113, h114, h115, h116, h117, h118, h119⟩ := (show okX9 ad m_taped m_size m_faultKind m_faultPlace m_at m_end m_token m_number m_name m_bank m_rb m_codes m_within m_piled m_unitsInRule x102 x103 m_thoughtClaim m_thoughtNeed m_thoughtAll m_acts m_undone m_laid m_firstMove m_seens m_time m_waysNow m_fitting 148 (f 148) from hT.1 148 (by decide))
  refine tVI (As := []) (rest := []) (i := 148) ⟨hx, hb, hml, hown, hts⟩ hK hE hP hD hS hA hAB (s_X9_facts_0 l B0 adK adV D cy ad fr0 c_text m_taped m_size m_faultKind m_faultPlace m_at m_end m_token m_number m_name c_points c_strands c_units c_told c_ruleFrom c_ruleTo c_code c_eWhat c_eSign m_bank m_rb m_codes m_within m_piled m_unitsInRule x102 x103 m_thoughtClaim m_thoughtNeed m_thoughtAll c_roundOf m_acts m_undone m_laid m_firstMove m_seens m_time m_waysNow m_fitting f hT _) (cwV 0 hts gX9_standBy_X9_facts rfl rfl rfl (by decide +kernel) ⟨Nat.le_of_ble_eq_true rfl, Nat.le_of_ble_eq_true rfl⟩) (by decide) 9 e120 rfl rfl hl.1 rfl (Nat.le_of_ble_eq_true rfl) dX9_standBy_6 ⟨Nat.le_of_ble_eq_true rfl, Nat.le_of_ble_eq_true rfl⟩ (fun r g H locs hw hP hD hS => ?_)
  obtain ⟨hrs, rfl⟩ := hw
  obtain ⟨x121, rfl⟩ : ∃ q, q = r := ⟨_, rfl⟩
  have h122 := hrs
  refine lv_iload_n hx hb dX9_standBy_9 rfl (lv_at hl 1 rfl) ?_
  refine lv_iconst (v := (-1)) hx hb dX9_standBy_10 (by decide) ?_
  refine lv_ixor hx hb dX9_standBy_11 ?_
  refine lv_topi (fun x123 ex123 => ?_)
  refine lv_iand hx hb dX9_standBy_12 ?_
  refine lv_topi (fun x124 ex124 => ?_)
  have hx124 := r_andl ex124 (by omega)
  refine lv_istore_n (lv' := [(3, .int x124), (0, .ref (ad 148)), (1, .int p1), (2, .int p2)]) hx hb dX9_standBy_13 rfl hl (by decide) rfl (fun ls hl => ?_)
  refine lv_iconst (v := 0) hx hb dX9_standBy_14 (by decide) ?_
  refine lv_istore (lv' := [(4, .int 0), (3, .int x124), (0, .ref (ad 148)), (1, .int p1), (2, .int p2)]) hx hb dX9_standBy_15 hl (by decide) rfl (fun ls hl => ?_)
  have ttl_0 := tl_0
  exact j17 (Int.toNat (11 - (0 : Int32).toInt)) f H locs ls (0 : Int32) x124 x102 x103 c_roundOf (by omega) (by omega) (by omega) (by omega) (by omega) hT hP hD hS (lv_sub hl [0, 1, 2, 3, 4] rfl)
