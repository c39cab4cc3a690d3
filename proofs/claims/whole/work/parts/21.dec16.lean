set_option maxRecDepth 20000 in
theorem gX8_readsOrder_X8_reads : GoodIn wsX8_readsOrder (wsV RX8 315 RX8 yX8_reads wsX8_reads) := goodIn_app (goodIn_of _ (by decide +kernel)) ggX8_readsOrder_X8_reads
set_option maxRecDepth 20000 in
theorem ggX8_readsOrder_X8_must : GoodIn wsX8_readsOrder wsX8_must := goodIn_r _ [14, 15, 16, 17, 44, 45, 46, 47, 48, 49, 50, 51, 52, 53, 54, 55, 56, 57, 58, 59, 60, 61, 62, 63, 64, 65, 66, 67, 68, 69, 70, 71, 72, 73, 74, 75] (by decide +kernel) (by decide +kernel)
set_option maxRecDepth 20000 in
theorem gX8_readsOrder_X8_must : GoodIn wsX8_readsOrder (wsV RX8 302 RX8 yX8_must wsX8_must) := goodIn_app (goodIn_of _ (by decide +kernel)) ggX8_readsOrder_X8_must
set_option maxRecDepth 20000 in
theorem ggX8_readsOrder_X8_within : GoodIn wsX8_readsOrder wsX8_within := goodIn_r _ [20] (by decide +kernel) (by decide +kernel)
set_option maxRecDepth 20000 in
theorem gX8_readsOrder_X8_within : GoodIn wsX8_readsOrder (va_wsS RX8 158 yX8_within wsX8_within) := goodIn_app (goodIn_of _ (by decide +kernel)) ggX8_readsOrder_X8_within
set_option maxRecDepth 20000 in
theorem ggX8_readsOrder_X8_isInt : GoodIn wsX8_readsOrder wsX8_isInt := goodIn_r _ [38, 39] (by decide +kernel) (by decide +kernel)
set_option maxRecDepth 20000 in
theorem gX8_readsOrder_X8_isInt : GoodIn wsX8_readsOrder (va_wsS RX8 178 yX8_isInt wsX8_isInt) := goodIn_app (goodIn_of _ (by decide +kernel)) ggX8_readsOrder_X8_isInt
set_option maxRecDepth 20000 in
theorem ggX8_readsOrder_X8_steps : GoodIn wsX8_readsOrder wsX8_steps := goodIn_r _ [24, 25, 16, 1, 2, 26, 27, 28, 29, 30, 31, 32, 9, 33, 34, 35, 18, 19, 20, 44, 45, 46, 47, 48, 49, 50, 51, 52, 53, 54, 55, 56, 57, 58, 59, 60, 61, 62, 63, 64, 65, 66, 67, 68, 69, 70, 71, 72, 73, 74, 75] (by decide +kernel) (by decide +kernel)
set_option maxRecDepth 20000 in
theorem gX8_readsOrder_X8_steps : GoodIn wsX8_readsOrder (wsV RX8 309 RX8 yX8_steps wsX8_steps) := goodIn_app (goodIn_of _ (by decide +kernel)) ggX8_readsOrder_X8_steps
set_option maxRecDepth 20000 in
theorem ggX8_readsOrder_X8_isWord : GoodIn wsX8_readsOrder wsX8_isWord := goodIn_r _ [43, 1, 25, 16, 30, 31, 32, 9, 33, 34, 35, 44, 45, 46, 47, 48, 49, 50, 51, 52, 53, 54, 55, 56, 57, 58, 59, 60, 61, 62, 63, 64, 65, 66, 67, 68, 69, 70, 71, 72, 73, 74, 75] (by decide +kernel) (by decide +kernel)
set_option maxRecDepth 20000 in
theorem gX8_readsOrder_X8_isWord : GoodIn wsX8_readsOrder (wsV RX8 312 RX8 yX8_isWord wsX8_isWord) := goodIn_app (goodIn_of _ (by decide +kernel)) ggX8_readsOrder_X8_isWord
theorem dX8_readsOrder_0 : decode cX8_readsOrder 0 = .ok (.aload_n 0, 1) := by decide +kernel
theorem dX8_readsOrder_1 : decode cX8_readsOrder 1 = .ok (.iconst 1, 1) := by decide +kernel
theorem dX8_readsOrder_2 : decode cX8_readsOrder 2 = .ok (.iconst 0, 1) := by decide +kernel
theorem dX8_readsOrder_3 : decode cX8_readsOrder 3 = .ok (.bipush 9, 2) := by decide +kernel
theorem dX8_readsOrder_5 : decode cX8_readsOrder 5 = .ok (.invokevirtual 315, 3) := by decide +kernel
theorem dX8_readsOrder_8 : decode cX8_readsOrder 8 = .ok (.ifCond .eq 15, 3) := by decide +kernel
theorem dX8_readsOrder_11 : decode cX8_readsOrder 11 = .ok (.aload_n 0, 1) := by decide +kernel
theorem dX8_readsOrder_12 : decode cX8_readsOrder 12 = .ok (.iconst 2, 1) := by decide +kernel
theorem dX8_readsOrder_13 : decode cX8_readsOrder 13 = .ok (.iconst 1, 1) := by decide +kernel
theorem dX8_readsOrder_14 : decode cX8_readsOrder 14 = .ok (.sipush 1000, 3) := by decide +kernel
theorem dX8_readsOrder_17 : decode cX8_readsOrder 17 = .ok (.invokevirtual 315, 3) := by decide +kernel
theorem dX8_readsOrder_20 : decode cX8_readsOrder 20 = .ok (.ifCond .ne 5, 3) := by decide +kernel
theorem dX8_readsOrder_23 : decode cX8_readsOrder 23 = .ok (.iconst 0, 1) := by decide +kernel
theorem dX8_readsOrder_24 : decode cX8_readsOrder 24 = .ok (.ireturn, 1) := by decide +kernel
theorem dX8_readsOrder_25 : decode cX8_readsOrder 25 = .ok (.aload_n 0, 1) := by decide +kernel
theorem dX8_readsOrder_26 : decode cX8_readsOrder 26 = .ok (.aload_n 0, 1) := by decide +kernel
theorem dX8_readsOrder_27 : decode cX8_readsOrder 27 = .ok (.getfield 282, 3) := by decide +kernel
theorem dX8_readsOrder_30 : decode cX8_readsOrder 30 = .ok (.iconst 2, 1) := by decide +kernel
theorem dX8_readsOrder_31 : decode cX8_readsOrder 31 = .ok (.if_icmp .ne 7, 3) := by decide +kernel
theorem dX8_readsOrder_34 : decode cX8_readsOrder 34 = .ok (.iconst 1, 1) := by decide +kernel
theorem dX8_readsOrder_35 : decode cX8_readsOrder 35 = .ok (.goto 4, 3) := by decide +kernel
theorem dX8_readsOrder_38 : decode cX8_readsOrder 38 = .ok (.iconst 0, 1) := by decide +kernel
theorem dX8_readsOrder_39 : decode cX8_readsOrder 39 = .ok (.iconst 1, 1) := by decide +kernel
theorem dX8_readsOrder_40 : decode cX8_readsOrder 40 = .ok (.invokevirtual 302, 3) := by decide +kernel
theorem dX8_readsOrder_43 : decode cX8_readsOrder 43 = .ok (.ifCond .eq 54, 3) := by decide +kernel
theorem dX8_readsOrder_46 : decode cX8_readsOrder 46 = .ok (.aload_n 0, 1) := by decide +kernel
theorem dX8_readsOrder_47 : decode cX8_readsOrder 47 = .ok (.aload_n 0, 1) := by decide +kernel
theorem dX8_readsOrder_48 : decode cX8_readsOrder 48 = .ok (.getfield 285, 3) := by decide +kernel
theorem dX8_readsOrder_51 : decode cX8_readsOrder 51 = .ok (.i2l, 1) := by decide +kernel
theorem dX8_readsOrder_52 : decode cX8_readsOrder 52 = .ok (.lconst 1, 1) := by decide +kernel
theorem dX8_readsOrder_53 : decode cX8_readsOrder 53 = .ok (.ldc2_w 162, 3) := by decide +kernel
theorem dX8_readsOrder_56 : decode cX8_readsOrder 56 = .ok (.invokestatic 158, 3) := by decide +kernel
theorem dX8_readsOrder_59 : decode cX8_readsOrder 59 = .ok (.ifCond .eq 30, 3) := by decide +kernel
theorem dX8_readsOrder_62 : decode cX8_readsOrder 62 = .ok (.aload_n 0, 1) := by decide +kernel
theorem dX8_readsOrder_63 : decode cX8_readsOrder 63 = .ok (.getfield 285, 3) := by decide +kernel
theorem dX8_readsOrder_66 : decode cX8_readsOrder 66 = .ok (.aload_n 0, 1) := by decide +kernel
theorem dX8_readsOrder_67 : decode cX8_readsOrder 67 = .ok (.getfield 42, 3) := by decide +kernel
theorem dX8_readsOrder_70 : decode cX8_readsOrder 70 = .ok (.iconst 5, 1) := by decide +kernel
theorem dX8_readsOrder_71 : decode cX8_readsOrder 71 = .ok (.aload_n 0, 1) := by decide +kernel
theorem dX8_readsOrder_72 : decode cX8_readsOrder 72 = .ok (.getfield 306, 3) := by decide +kernel
theorem dX8_readsOrder_75 : decode cX8_readsOrder 75 = .ok (.imul, 1) := by decide +kernel
theorem dX8_readsOrder_76 : decode cX8_readsOrder 76 = .ok (.iconst 2, 1) := by decide +kernel
theorem dX8_readsOrder_77 : decode cX8_readsOrder 77 = .ok (.iadd, 1) := by decide +kernel
theorem dX8_readsOrder_78 : decode cX8_readsOrder 78 = .ok (.iaload, 1) := by decide +kernel
theorem dX8_readsOrder_79 : decode cX8_readsOrder 79 = .ok (.invokestatic 178, 3) := by decide +kernel
theorem dX8_readsOrder_82 : decode cX8_readsOrder 82 = .ok (.ifCond .eq 7, 3) := by decide +kernel
theorem dX8_readsOrder_85 : decode cX8_readsOrder 85 = .ok (.iconst 1, 1) := by decide +kernel
theorem dX8_readsOrder_86 : decode cX8_readsOrder 86 = .ok (.goto 4, 3) := by decide +kernel
theorem dX8_readsOrder_89 : decode cX8_readsOrder 89 = .ok (.iconst 0, 1) := by decide +kernel
theorem dX8_readsOrder_90 : decode cX8_readsOrder 90 = .ok (.iconst 2, 1) := by decide +kernel
theorem dX8_readsOrder_91 : decode cX8_readsOrder 91 = .ok (.invokevirtual 302, 3) := by decide +kernel
theorem dX8_readsOrder_94 : decode cX8_readsOrder 94 = .ok (.ifCond .ne 5, 3) := by decide +kernel
theorem dX8_readsOrder_97 : decode cX8_readsOrder 97 = .ok (.iconst 0, 1) := by decide +kernel
theorem dX8_readsOrder_98 : decode cX8_readsOrder 98 = .ok (.ireturn, 1) := by decide +kernel
theorem dX8_readsOrder_99 : decode cX8_readsOrder 99 = .ok (.aload_n 0, 1) := by decide +kernel
theorem dX8_readsOrder_100 : decode cX8_readsOrder 100 = .ok (.getfield 42, 3) := by decide +kernel
theorem dX8_readsOrder_103 : decode cX8_readsOrder 103 = .ok (.iconst 5, 1) := by decide +kernel
theorem dX8_readsOrder_104 : decode cX8_readsOrder 104 = .ok (.aload_n 0, 1) := by decide +kernel
theorem dX8_readsOrder_105 : decode cX8_readsOrder 105 = .ok (.getfield 306, 3) := by decide +kernel
theorem dX8_readsOrder_108 : decode cX8_readsOrder 108 = .ok (.imul, 1) := by decide +kernel
theorem dX8_readsOrder_109 : decode cX8_readsOrder 109 = .ok (.iconst 3, 1) := by decide +kernel
theorem dX8_readsOrder_110 : decode cX8_readsOrder 110 = .ok (.iadd, 1) := by decide +kernel
theorem dX8_readsOrder_111 : decode cX8_readsOrder 111 = .ok (.aload_n 0, 1) := by decide +kernel
theorem dX8_readsOrder_112 : decode cX8_readsOrder 112 = .ok (.getfield 285, 3) := by decide +kernel
theorem dX8_readsOrder_115 : decode cX8_readsOrder 115 = .ok (.iastore, 1) := by decide +kernel
theorem dX8_readsOrder_116 : decode cX8_readsOrder 116 = .ok (.aload_n 0, 1) := by decide +kernel
theorem dX8_readsOrder_117 : decode cX8_readsOrder 117 = .ok (.getfield 42, 3) := by decide +kernel
theorem dX8_readsOrder_120 : decode cX8_readsOrder 120 = .ok (.iconst 5, 1) := by decide +kernel
theorem dX8_readsOrder_121 : decode cX8_readsOrder 121 = .ok (.aload_n 0, 1) := by decide +kernel
theorem dX8_readsOrder_122 : decode cX8_readsOrder 122 = .ok (.getfield 306, 3) := by decide +kernel
theorem dX8_readsOrder_125 : decode cX8_readsOrder 125 = .ok (.imul, 1) := by decide +kernel
theorem dX8_readsOrder_126 : decode cX8_readsOrder 126 = .ok (.iconst 4, 1) := by decide +kernel
theorem dX8_readsOrder_127 : decode cX8_readsOrder 127 = .ok (.iadd, 1) := by decide +kernel
theorem dX8_readsOrder_128 : decode cX8_readsOrder 128 = .ok (.iconst 0, 1) := by decide +kernel
theorem dX8_readsOrder_129 : decode cX8_readsOrder 129 = .ok (.iastore, 1) := by decide +kernel
theorem dX8_readsOrder_130 : decode cX8_readsOrder 130 = .ok (.aload_n 0, 1) := by decide +kernel
theorem dX8_readsOrder_131 : decode cX8_readsOrder 131 = .ok (.invokevirtual 309, 3) := by decide +kernel
theorem dX8_readsOrder_134 : decode cX8_readsOrder 134 = .ok (.aload_n 0, 1) := by decide +kernel
theorem dX8_readsOrder_135 : decode cX8_readsOrder 135 = .ok (.getfield 282, 3) := by decide +kernel
theorem dX8_readsOrder_138 : decode cX8_readsOrder 138 = .ok (.iconst 1, 1) := by decide +kernel
theorem dX8_readsOrder_139 : decode cX8_readsOrder 139 = .ok (.if_icmp .eq 5, 3) := by decide +kernel
theorem dX8_readsOrder_142 : decode cX8_readsOrder 142 = .ok (.iconst 1, 1) := by decide +kernel
theorem dX8_readsOrder_143 : decode cX8_readsOrder 143 = .ok (.ireturn, 1) := by decide +kernel
theorem dX8_readsOrder_144 : decode cX8_readsOrder 144 = .ok (.aload_n 0, 1) := by decide +kernel
theorem dX8_readsOrder_145 : decode cX8_readsOrder 145 = .ok (.bipush 114, 2) := by decide +kernel
theorem dX8_readsOrder_147 : decode cX8_readsOrder 147 = .ok (.bipush 101, 2) := by decide +kernel
theorem dX8_readsOrder_149 : decode cX8_readsOrder 149 = .ok (.bipush 115, 2) := by decide +kernel
theorem dX8_readsOrder_151 : decode cX8_readsOrder 151 = .ok (.bipush 116, 2) := by decide +kernel
theorem dX8_readsOrder_153 : decode cX8_readsOrder 153 = .ok (.iconst 0, 1) := by decide +kernel
theorem dX8_readsOrder_154 : decode cX8_readsOrder 154 = .ok (.invokevirtual 312, 3) := by decide +kernel
theorem dX8_readsOrder_157 : decode cX8_readsOrder 157 = .ok (.ifCond .eq 7, 3) := by decide +kernel
theorem dX8_readsOrder_160 : decode cX8_readsOrder 160 = .ok (.iconst 0, 1) := by decide +kernel
theorem dX8_readsOrder_161 : decode cX8_readsOrder 161 = .ok (.goto 64, 3) := by decide +kernel
theorem dX8_readsOrder_164 : decode cX8_readsOrder 164 = .ok (.aload_n 0, 1) := by decide +kernel
theorem dX8_readsOrder_165 : decode cX8_readsOrder 165 = .ok (.bipush 99, 2) := by decide +kernel
theorem dX8_readsOrder_167 : decode cX8_readsOrder 167 = .ok (.bipush 111, 2) := by decide +kernel
theorem dX8_readsOrder_169 : decode cX8_readsOrder 169 = .ok (.bipush 109, 2) := by decide +kernel
theorem dX8_readsOrder_171 : decode cX8_readsOrder 171 = .ok (.bipush 101, 2) := by decide +kernel
theorem dX8_readsOrder_173 : decode cX8_readsOrder 173 = .ok (.iconst 0, 1) := by decide +kernel
theorem dX8_readsOrder_174 : decode cX8_readsOrder 174 = .ok (.invokevirtual 312, 3) := by decide +kernel
theorem dX8_readsOrder_177 : decode cX8_readsOrder 177 = .ok (.ifCond .eq 7, 3) := by decide +kernel
theorem dX8_readsOrder_180 : decode cX8_readsOrder 180 = .ok (.iconst 1, 1) := by decide +kernel
theorem dX8_readsOrder_181 : decode cX8_readsOrder 181 = .ok (.goto 44, 3) := by decide +kernel
theorem dX8_readsOrder_184 : decode cX8_readsOrder 184 = .ok (.aload_n 0, 1) := by decide +kernel
theorem dX8_readsOrder_185 : decode cX8_readsOrder 185 = .ok (.bipush 98, 2) := by decide +kernel
theorem dX8_readsOrder_187 : decode cX8_readsOrder 187 = .ok (.bipush 111, 2) := by decide +kernel
theorem dX8_readsOrder_189 : decode cX8_readsOrder 189 = .ok (.bipush 116, 2) := by decide +kernel
theorem dX8_readsOrder_191 : decode cX8_readsOrder 191 = .ok (.bipush 104, 2) := by decide +kernel
theorem dX8_readsOrder_193 : decode cX8_readsOrder 193 = .ok (.iconst 0, 1) := by decide +kernel
theorem dX8_readsOrder_194 : decode cX8_readsOrder 194 = .ok (.invokevirtual 312, 3) := by decide +kernel
theorem dX8_readsOrder_197 : decode cX8_readsOrder 197 = .ok (.ifCond .eq 7, 3) := by decide +kernel
theorem dX8_readsOrder_200 : decode cX8_readsOrder 200 = .ok (.iconst 2, 1) := by decide +kernel
theorem dX8_readsOrder_201 : decode cX8_readsOrder 201 = .ok (.goto 24, 3) := by decide +kernel
theorem dX8_readsOrder_204 : decode cX8_readsOrder 204 = .ok (.aload_n 0, 1) := by decide +kernel
theorem dX8_readsOrder_205 : decode cX8_readsOrder 205 = .ok (.bipush 108, 2) := by decide +kernel
theorem dX8_readsOrder_207 : decode cX8_readsOrder 207 = .ok (.bipush 101, 2) := by decide +kernel
theorem dX8_readsOrder_209 : decode cX8_readsOrder 209 = .ok (.bipush 115, 2) := by decide +kernel
theorem dX8_readsOrder_211 : decode cX8_readsOrder 211 = .ok (.bipush 115, 2) := by decide +kernel
theorem dX8_readsOrder_213 : decode cX8_readsOrder 213 = .ok (.iconst 0, 1) := by decide +kernel
theorem dX8_readsOrder_214 : decode cX8_readsOrder 214 = .ok (.invokevirtual 312, 3) := by decide +kernel
theorem dX8_readsOrder_217 : decode cX8_readsOrder 217 = .ok (.ifCond .eq 7, 3) := by decide +kernel
theorem dX8_readsOrder_220 : decode cX8_readsOrder 220 = .ok (.iconst 3, 1) := by decide +kernel
theorem dX8_readsOrder_221 : decode cX8_readsOrder 221 = .ok (.goto 4, 3) := by decide +kernel
theorem dX8_readsOrder_224 : decode cX8_readsOrder 224 = .ok (.iconst (-1), 1) := by decide +kernel
theorem dX8_readsOrder_225 : decode cX8_readsOrder 225 = .ok (.istore_n 1, 1) := by decide +kernel
theorem dX8_readsOrder_226 : decode cX8_readsOrder 226 = .ok (.aload_n 0, 1) := by decide +kernel
theorem dX8_readsOrder_227 : decode cX8_readsOrder 227 = .ok (.iload_n 1, 1) := by decide +kernel
theorem dX8_readsOrder_228 : decode cX8_readsOrder 228 = .ok (.ifCond .lt 7, 3) := by decide +kernel
theorem dX8_readsOrder_231 : decode cX8_readsOrder 231 = .ok (.iconst 1, 1) := by decide +kernel
theorem dX8_readsOrder_232 : decode cX8_readsOrder 232 = .ok (.goto 4, 3) := by decide +kernel
theorem dX8_readsOrder_235 : decode cX8_readsOrder 235 = .ok (.iconst 0, 1) := by decide +kernel
theorem dX8_readsOrder_236 : decode cX8_readsOrder 236 = .ok (.iconst 1, 1) := by decide +kernel
theorem dX8_readsOrder_237 : decode cX8_readsOrder 237 = .ok (.invokevirtual 302, 3) := by decide +kernel
theorem dX8_readsOrder_240 : decode cX8_readsOrder 240 = .ok (.ifCond .ne 5, 3) := by decide +kernel
theorem dX8_readsOrder_243 : decode cX8_readsOrder 243 = .ok (.iconst 0, 1) := by decide +kernel
theorem dX8_readsOrder_244 : decode cX8_readsOrder 244 = .ok (.ireturn, 1) := by decide +kernel
theorem dX8_readsOrder_245 : decode cX8_readsOrder 245 = .ok (.aload_n 0, 1) := by decide +kernel
theorem dX8_readsOrder_246 : decode cX8_readsOrder 246 = .ok (.getfield 42, 3) := by decide +kernel
theorem dX8_readsOrder_249 : decode cX8_readsOrder 249 = .ok (.iconst 5, 1) := by decide +kernel
theorem dX8_readsOrder_250 : decode cX8_readsOrder 250 = .ok (.aload_n 0, 1) := by decide +kernel
theorem dX8_readsOrder_251 : decode cX8_readsOrder 251 = .ok (.getfield 306, 3) := by decide +kernel
theorem dX8_readsOrder_254 : decode cX8_readsOrder 254 = .ok (.imul, 1) := by decide +kernel
theorem dX8_readsOrder_255 : decode cX8_readsOrder 255 = .ok (.iconst 4, 1) := by decide +kernel
theorem dX8_readsOrder_256 : decode cX8_readsOrder 256 = .ok (.iadd, 1) := by decide +kernel
theorem dX8_readsOrder_257 : decode cX8_readsOrder 257 = .ok (.iload_n 1, 1) := by decide +kernel
theorem dX8_readsOrder_258 : decode cX8_readsOrder 258 = .ok (.iastore, 1) := by decide +kernel
theorem dX8_readsOrder_259 : decode cX8_readsOrder 259 = .ok (.aload_n 0, 1) := by decide +kernel
theorem dX8_readsOrder_260 : decode cX8_readsOrder 260 = .ok (.invokevirtual 309, 3) := by decide +kernel
theorem dX8_readsOrder_263 : decode cX8_readsOrder 263 = .ok (.iconst 1, 1) := by decide +kernel
theorem dX8_readsOrder_264 : decode cX8_readsOrder 264 = .ok (.ireturn, 1) := by decide +kernel
set_option maxRecDepth 20000 in
theorem ggX8_readsLine_X8_kindHere : GoodIn wsX8_readsLine wsX8_kindHere := goodIn_r _ [8, 9, 10, 11, 7, 12, 13, 14, 15, 16, 17, 18, 19, 20, 21, 53, 54, 55, 56, 57, 58, 59, 60, 61, 62, 63, 64, 65, 66, 67, 68, 69, 70, 71, 72, 73, 74, 75, 76, 77, 78, 79, 80, 81, 82, 83, 84] (by decide +kernel) (by decide +kernel)
set_option maxRecDepth 20000 in
theorem gX8_readsLine_X8_kindHere : GoodIn wsX8_readsLine (wsV RX8 318 RX8 yX8_kindHere wsX8_kindHere) := goodIn_app (goodIn_of _ (by decide +kernel)) ggX8_readsLine_X8_kindHere
set_option maxRecDepth 20000 in
theorem ggX8_readsLine_X8_must : GoodIn wsX8_readsLine wsX8_must := goodIn_r _ [25, 26, 15, 27, 53, 54, 55, 56, 57, 58, 59, 60, 61, 62, 63, 64, 65, 66, 67, 68, 69, 70, 71, 72, 73, 74, 75, 76, 77, 78, 79, 80, 81, 82, 83, 84] (by decide +kernel) (by decide +kernel)
set_option maxRecDepth 20000 in
theorem gX8_readsLine_X8_must : GoodIn wsX8_readsLine (wsV RX8 302 RX8 yX8_must wsX8_must) := goodIn_app (goodIn_of _ (by decide +kernel)) ggX8_readsLine_X8_must
set_option maxRecDepth 20000 in
theorem ggX8_readsLine_X8_steps : GoodIn wsX8_readsLine wsX8_steps := goodIn_r _ [31, 14, 15, 13, 32, 33, 34, 35, 36, 16, 17, 18, 7, 19, 20, 21, 37, 38, 39, 53, 54, 55, 56, 57, 58, 59, 60, 61, 62, 63, 64, 65, 66, 67, 68, 69, 70, 71, 72, 73, 74, 75, 76, 77, 78, 79, 80, 81, 82, 83, 84] (by decide +kernel) (by decide +kernel)
set_option maxRecDepth 20000 in
theorem gX8_readsLine_X8_steps : GoodIn wsX8_readsLine (wsV RX8 309 RX8 yX8_steps wsX8_steps) := goodIn_app (goodIn_of _ (by decide +kernel)) ggX8_readsLine_X8_steps
set_option maxRecDepth 20000 in
theorem ggX8_readsLine_X8_readsOrder : GoodIn wsX8_readsLine wsX8_readsOrder := goodIn_r _ [43, 13, 32, 44, 1, 2, 45, 46, 47, 7, 48, 22, 23, 24, 25, 26, 15, 27, 37, 38, 39, 28, 29, 30, 31, 14, 33, 34, 35, 36, 16, 17, 18, 19, 20, 21, 49, 50, 51, 52, 9, 10, 11, 12, 53, 54, 55, 56, 57, 58, 59, 60, 61, 62, 63, 64, 65, 66, 67, 68, 69, 70, 71, 72, 73, 74, 75, 76, 77, 78, 79, 80, 81, 82, 83, 84] (by decide +kernel) (by decide +kernel)
set_option maxRecDepth 20000 in
theorem gX8_readsLine_X8_readsOrder : GoodIn wsX8_readsLine (wsV RX8 321 RX8 yX8_readsOrder wsX8_readsOrder) := goodIn_app (goodIn_of _ (by decide +kernel)) ggX8_readsLine_X8_readsOrder
set_option maxRecDepth 20000 in
theorem ggX8_readsLine_X8_reads : GoodIn wsX8_readsLine wsX8_reads := goodIn_r _ [48, 13, 32, 1, 2, 22, 23, 24, 7, 25, 26, 15, 27, 37, 38, 39, 28, 29, 30, 31, 14, 33, 34, 35, 36, 16, 17, 18, 19, 20, 21, 53, 54, 55, 56, 57, 58, 59, 60, 61, 62, 63, 64, 65, 66, 67, 68, 69, 70, 71, 72, 73, 74, 75, 76, 77, 78, 79, 80, 81, 82, 83, 84] (by decide +kernel) (by decide +kernel)
set_option maxRecDepth 20000 in
theorem gX8_readsLine_X8_reads : GoodIn wsX8_readsLine (wsV RX8 315 RX8 yX8_reads wsX8_reads) := goodIn_app (goodIn_of _ (by decide +kernel)) ggX8_readsLine_X8_reads
theorem dX8_readsLine_0 : decode cX8_readsLine 0 = .ok (.aload_n 0, 1) := by decide +kernel
theorem dX8_readsLine_1 : decode cX8_readsLine 1 = .ok (.invokevirtual 318, 3) := by decide +kernel
theorem dX8_readsLine_4 : decode cX8_readsLine 4 = .ok (.istore_n 1, 1) := by decide +kernel
theorem dX8_readsLine_5 : decode cX8_readsLine 5 = .ok (.aload_n 0, 1) := by decide +kernel
theorem dX8_readsLine_6 : decode cX8_readsLine 6 = .ok (.iload_n 1, 1) := by decide +kernel
theorem dX8_readsLine_7 : decode cX8_readsLine 7 = .ok (.ifCond .lt 7, 3) := by decide +kernel
theorem dX8_readsLine_10 : decode cX8_readsLine 10 = .ok (.iconst 1, 1) := by decide +kernel
theorem dX8_readsLine_11 : decode cX8_readsLine 11 = .ok (.goto 4, 3) := by decide +kernel
theorem dX8_readsLine_14 : decode cX8_readsLine 14 = .ok (.iconst 0, 1) := by decide +kernel
theorem dX8_readsLine_15 : decode cX8_readsLine 15 = .ok (.iconst 1, 1) := by decide +kernel
theorem dX8_readsLine_16 : decode cX8_readsLine 16 = .ok (.invokevirtual 302, 3) := by decide +kernel
theorem dX8_readsLine_19 : decode cX8_readsLine 19 = .ok (.ifCond .ne 5, 3) := by decide +kernel
theorem dX8_readsLine_22 : decode cX8_readsLine 22 = .ok (.iconst 0, 1) := by decide +kernel
theorem dX8_readsLine_23 : decode cX8_readsLine 23 = .ok (.ireturn, 1) := by decide +kernel
theorem dX8_readsLine_24 : decode cX8_readsLine 24 = .ok (.aload_n 0, 1) := by decide +kernel
theorem dX8_readsLine_25 : decode cX8_readsLine 25 = .ok (.getfield 42, 3) := by decide +kernel
theorem dX8_readsLine_28 : decode cX8_readsLine 28 = .ok (.iconst 5, 1) := by decide +kernel
theorem dX8_readsLine_29 : decode cX8_readsLine 29 = .ok (.aload_n 0, 1) := by decide +kernel
theorem dX8_readsLine_30 : decode cX8_readsLine 30 = .ok (.getfield 306, 3) := by decide +kernel
theorem dX8_readsLine_33 : decode cX8_readsLine 33 = .ok (.imul, 1) := by decide +kernel
theorem dX8_readsLine_34 : decode cX8_readsLine 34 = .ok (.iload_n 1, 1) := by decide +kernel
theorem dX8_readsLine_35 : decode cX8_readsLine 35 = .ok (.iastore, 1) := by decide +kernel
theorem dX8_readsLine_36 : decode cX8_readsLine 36 = .ok (.aload_n 0, 1) := by decide +kernel
theorem dX8_readsLine_37 : decode cX8_readsLine 37 = .ok (.invokevirtual 309, 3) := by decide +kernel
theorem dX8_readsLine_40 : decode cX8_readsLine 40 = .ok (.iload_n 1, 1) := by decide +kernel
theorem dX8_readsLine_41 : decode cX8_readsLine 41 = .ok (.tableswitch 101 0 5 #[39, 39, 44, 53, 82, 92], 39) := by decide +kernel
theorem dX8_readsLine_80 : decode cX8_readsLine 80 = .ok (.aload_n 0, 1) := by decide +kernel
theorem dX8_readsLine_81 : decode cX8_readsLine 81 = .ok (.invokevirtual 321, 3) := by decide +kernel
theorem dX8_readsLine_84 : decode cX8_readsLine 84 = .ok (.ireturn, 1) := by decide +kernel
theorem dX8_readsLine_85 : decode cX8_readsLine 85 = .ok (.aload_n 0, 1) := by decide +kernel
theorem dX8_readsLine_86 : decode cX8_readsLine 86 = .ok (.iconst 1, 1) := by decide +kernel
theorem dX8_readsLine_87 : decode cX8_readsLine 87 = .ok (.iconst 1, 1) := by decide +kernel
theorem dX8_readsLine_88 : decode cX8_readsLine 88 = .ok (.ldc 201, 2) := by decide +kernel
theorem dX8_readsLine_90 : decode cX8_readsLine 90 = .ok (.invokevirtual 315, 3) := by decide +kernel
theorem dX8_readsLine_93 : decode cX8_readsLine 93 = .ok (.ireturn, 1) := by decide +kernel
theorem dX8_readsLine_94 : decode cX8_readsLine 94 = .ok (.aload_n 0, 1) := by decide +kernel
theorem dX8_readsLine_95 : decode cX8_readsLine 95 = .ok (.iconst 1, 1) := by decide +kernel
theorem dX8_readsLine_96 : decode cX8_readsLine 96 = .ok (.iconst 1, 1) := by decide +kernel
theorem dX8_readsLine_97 : decode cX8_readsLine 97 = .ok (.ldc 201, 2) := by decide +kernel
theorem dX8_readsLine_99 : decode cX8_readsLine 99 = .ok (.invokevirtual 315, 3) := by decide +kernel
theorem dX8_readsLine_102 : decode cX8_readsLine 102 = .ok (.ifCond .eq 19, 3) := by decide +kernel
theorem dX8_readsLine_105 : decode cX8_readsLine 105 = .ok (.aload_n 0, 1) := by decide +kernel
theorem dX8_readsLine_106 : decode cX8_readsLine 106 = .ok (.iconst 2, 1) := by decide +kernel
theorem dX8_readsLine_107 : decode cX8_readsLine 107 = .ok (.iconst 1, 1) := by decide +kernel
theorem dX8_readsLine_108 : decode cX8_readsLine 108 = .ok (.sipush 1000, 3) := by decide +kernel
theorem dX8_readsLine_111 : decode cX8_readsLine 111 = .ok (.invokevirtual 315, 3) := by decide +kernel
theorem dX8_readsLine_114 : decode cX8_readsLine 114 = .ok (.ifCond .eq 7, 3) := by decide +kernel
theorem dX8_readsLine_117 : decode cX8_readsLine 117 = .ok (.iconst 1, 1) := by decide +kernel
theorem dX8_readsLine_118 : decode cX8_readsLine 118 = .ok (.goto 4, 3) := by decide +kernel
theorem dX8_readsLine_121 : decode cX8_readsLine 121 = .ok (.iconst 0, 1) := by decide +kernel
theorem dX8_readsLine_122 : decode cX8_readsLine 122 = .ok (.ireturn, 1) := by decide +kernel
theorem dX8_readsLine_123 : decode cX8_readsLine 123 = .ok (.aload_n 0, 1) := by decide +kernel
theorem dX8_readsLine_124 : decode cX8_readsLine 124 = .ok (.iconst 1, 1) := by decide +kernel
theorem dX8_readsLine_125 : decode cX8_readsLine 125 = .ok (.iconst 0, 1) := by decide +kernel
theorem dX8_readsLine_126 : decode cX8_readsLine 126 = .ok (.sipush 1000, 3) := by decide +kernel
theorem dX8_readsLine_129 : decode cX8_readsLine 129 = .ok (.invokevirtual 315, 3) := by decide +kernel
theorem dX8_readsLine_132 : decode cX8_readsLine 132 = .ok (.ireturn, 1) := by decide +kernel
theorem dX8_readsLine_133 : decode cX8_readsLine 133 = .ok (.aload_n 0, 1) := by decide +kernel
theorem dX8_readsLine_134 : decode cX8_readsLine 134 = .ok (.iconst 1, 1) := by decide +kernel
theorem dX8_readsLine_135 : decode cX8_readsLine 135 = .ok (.iconst 1, 1) := by decide +kernel
theorem dX8_readsLine_136 : decode cX8_readsLine 136 = .ok (.bipush 50, 2) := by decide +kernel
theorem dX8_readsLine_138 : decode cX8_readsLine 138 = .ok (.invokevirtual 315, 3) := by decide +kernel
theorem dX8_readsLine_141 : decode cX8_readsLine 141 = .ok (.ireturn, 1) := by decide +kernel
theorem dX8_readsLine_142 : decode cX8_readsLine 142 = .ok (.iconst 1, 1) := by decide +kernel
theorem dX8_readsLine_143 : decode cX8_readsLine 143 = .ok (.ireturn, 1) := by decide +kernel
set_option maxRecDepth 20000 in
theorem ggX8_does_X8_orders_h : GoodIn wsX8_does [Cond.code yX8_orders cX8_orders 7 (some .int)] := goodIn_r _ [6] (by decide +kernel) (by decide +kernel)
set_option maxRecDepth 20000 in
theorem ggX8_does_X8_orders_1 : GoodIn wsX8_does wsX8_orders_r1 := goodIn_r _ [7, 8, 9, 10, 11, 5, 12, 13, 14, 15, 16, 17, 18, 19, 20, 21, 22, 23, 24, 25, 26, 27, 28, 29] (by decide +kernel) (by decide +kernel)
set_option maxRecDepth 20000 in
theorem ggX8_does_X8_orders_2 : GoodIn wsX8_does wsX8_orders_r2 := goodIn_r _ [30, 31, 32, 33, 34, 35, 36, 37, 38, 39, 40, 41, 42, 43, 44, 45, 46, 47, 48, 49, 50, 51, 52, 53] (by decide +kernel) (by decide +kernel)
set_option maxRecDepth 20000 in
theorem ggX8_does_X8_orders_3 : GoodIn wsX8_does wsX8_orders_r3 := goodIn_r _ [54, 55, 56, 57, 58, 59, 60, 61, 62, 63, 64, 65, 66, 67, 68, 69, 70, 71, 72, 73, 74, 75, 76, 77] (by decide +kernel) (by decide +kernel)
set_option maxRecDepth 20000 in
theorem ggX8_does_X8_orders_4 : GoodIn wsX8_does wsX8_orders_r4 := goodIn_r _ [78, 79, 80, 81, 82, 83, 84, 85, 86, 87, 88, 89, 90, 91, 92, 93, 94, 95, 96, 97, 98, 99, 100, 101] (by decide +kernel) (by decide +kernel)
set_option maxRecDepth 20000 in
theorem ggX8_does_X8_orders_5 : GoodIn wsX8_does wsX8_orders_r5 := goodIn_r _ [102, 103, 104, 105, 106, 107, 108, 109, 110, 111, 112, 113, 114, 115, 116, 117] (by decide +kernel) (by decide +kernel)
set_option maxRecDepth 20000 in
theorem ggX8_does_X8_orders_6 : GoodIn wsX8_does wsX80 := goodIn_r _ [176, 177, 178, 179, 180, 181, 182, 183, 184, 185, 186, 187, 188, 189, 190, 191, 192, 193, 194, 195, 196, 197, 198, 199, 200, 201, 202, 203, 204, 205, 206, 207] (by decide +kernel) (by decide +kernel)
theorem ggX8_does_X8_orders : GoodIn wsX8_does wsX8_orders := goodIn_app ggX8_does_X8_orders_h (goodIn_app (goodIn_app ggX8_does_X8_orders_1 (goodIn_app ggX8_does_X8_orders_2 (goodIn_app ggX8_does_X8_orders_3 (goodIn_app ggX8_does_X8_orders_4 ggX8_does_X8_orders_5)))) ggX8_does_X8_orders_6)
set_option maxRecDepth 20000 in
theorem gX8_does_X8_orders : GoodIn wsX8_does (wsV RX8 181 RX8 yX8_orders wsX8_orders) := goodIn_app (goodIn_of _ (by decide +kernel)) ggX8_does_X8_orders
set_option maxRecDepth 20000 in
theorem ggX8_does_X8_takesOff : GoodIn wsX8_does wsX8_takesOff := goodIn_r _ [121, 122, 123, 124, 5, 125, 7, 31, 32, 33, 34, 50, 51, 52, 53, 54, 55, 56, 57, 176, 177, 178, 179, 180, 181, 182, 183, 184, 185, 186, 187, 188, 189, 190, 191, 192, 193, 194, 195, 196, 197, 198, 199, 200, 201, 202, 203, 204, 205, 206, 207] (by decide +kernel) (by decide +kernel)
set_option maxRecDepth 20000 in
theorem gX8_does_X8_takesOff : GoodIn wsX8_does (wsV RX8 187 RX8 yX8_takesOff wsX8_takesOff) := goodIn_app (goodIn_of _ (by decide +kernel)) ggX8_does_X8_takesOff
set_option maxRecDepth 20000 in
theorem ggX8_does_X8_cuts : GoodIn wsX8_does wsX8_cuts := goodIn_r _ [129, 7, 122, 123, 124, 5, 125, 31, 32, 33, 34, 62, 63, 64, 65, 54, 55, 56, 57, 176, 177, 178, 179, 180, 181, 182, 183, 184, 185, 186, 187, 188, 189, 190, 191, 192, 193, 194, 195, 196, 197, 198, 199, 200, 201, 202, 203, 204, 205, 206, 207] (by decide +kernel) (by decide +kernel)
set_option maxRecDepth 20000 in
theorem gX8_does_X8_cuts : GoodIn wsX8_does (wsV RX8 190 RX8 yX8_cuts wsX8_cuts) := goodIn_app (goodIn_of _ (by decide +kernel)) ggX8_does_X8_cuts
set_option maxRecDepth 20000 in
theorem ggX8_does_X8_sets : GoodIn wsX8_does wsX8_sets := goodIn_r _ [133, 7, 134, 135, 5, 136, 176, 177, 178, 179, 180, 181, 182, 183, 184, 185, 186, 187, 188, 189, 190, 191, 192, 193, 194, 195, 196, 197, 198, 199, 200, 201, 202, 203, 204, 205, 206, 207] (by decide +kernel) (by decide +kernel)
set_option maxRecDepth 20000 in
theorem gX8_does_X8_sets : GoodIn wsX8_does (wsV RX8 193 RX8 yX8_sets wsX8_sets) := goodIn_app (goodIn_of _ (by decide +kernel)) ggX8_does_X8_sets
set_option maxRecDepth 20000 in
theorem ggX8_does_X8_calls : GoodIn wsX8_does wsX8_calls := goodIn_r _ [140, 7, 54, 55, 56, 5, 57, 176, 177, 178, 179, 180, 181, 182, 183, 184, 185, 186, 187, 188, 189, 190, 191, 192, 193, 194, 195, 196, 197, 198, 199, 200, 201, 202, 203, 204, 205, 206, 207] (by decide +kernel) (by decide +kernel)
set_option maxRecDepth 20000 in
theorem gX8_does_X8_calls : GoodIn wsX8_does (wsV RX8 197 RX8 yX8_calls wsX8_calls) := goodIn_app (goodIn_of _ (by decide +kernel)) ggX8_does_X8_calls
set_option maxRecDepth 20000 in
theorem ggX8_does_X8_opening_h : GoodIn wsX8_does [Cond.code yX8_opening cX8_opening 1 (some .int)] := goodIn_r _ [144] (by decide +kernel) (by decide +kernel)
set_option maxRecDepth 20000 in
theorem ggX8_does_X8_opening_1 : GoodIn wsX8_does wsX8_opening_r1 := goodIn_r _ [7, 145, 146, 147, 148, 149, 5, 150, 151, 152, 153, 154, 155, 156, 157, 158, 159, 160, 31, 32, 33, 34, 161, 162] (by decide +kernel) (by decide +kernel)
set_option maxRecDepth 20000 in
theorem ggX8_does_X8_opening_2 : GoodIn wsX8_does wsX8_opening_r2 := goodIn_r _ [163, 164, 35, 36, 37, 165, 166, 167, 168, 169, 170, 171, 74, 75, 76, 83, 77, 27, 28, 29, 30, 78, 79, 80] (by decide +kernel) (by decide +kernel)
set_option maxRecDepth 20000 in
theorem ggX8_does_X8_opening_3 : GoodIn wsX8_does wsX8_opening_r3 := goodIn_r _ [81, 82, 42, 43, 44, 45, 66, 67, 68, 69, 172, 173, 174, 175, 96, 97, 98, 99, 100, 101, 102, 103, 104, 105] (by decide +kernel) (by decide +kernel)
set_option maxRecDepth 20000 in
theorem ggX8_does_X8_opening_4 : GoodIn wsX8_does wsX8_opening_r4 := goodIn_r _ [88, 89, 90, 91, 106, 107, 108, 109, 54, 55, 56, 57, 110, 111, 112, 113, 62, 63, 64, 65, 50, 51, 52, 53] (by decide +kernel) (by decide +kernel)
set_option maxRecDepth 20000 in
theorem ggX8_does_X8_opening_5 : GoodIn wsX8_does wsX80 := goodIn_r _ [176, 177, 178, 179, 180, 181, 182, 183, 184, 185, 186, 187, 188, 189, 190, 191, 192, 193, 194, 195, 196, 197, 198, 199, 200, 201, 202, 203, 204, 205, 206, 207] (by decide +kernel) (by decide +kernel)
theorem ggX8_does_X8_opening : GoodIn wsX8_does wsX8_opening := goodIn_app ggX8_does_X8_opening_h (goodIn_app (goodIn_app ggX8_does_X8_opening_1 (goodIn_app ggX8_does_X8_opening_2 (goodIn_app ggX8_does_X8_opening_3 ggX8_does_X8_opening_4))) ggX8_does_X8_opening_5)
set_option maxRecDepth 20000 in
theorem gX8_does_X8_opening : GoodIn wsX8_does (wsV RX8 232 RX8 yX8_opening wsX8_opening) := goodIn_app (goodIn_of _ (by decide +kernel)) ggX8_does_X8_opening
theorem dX8_does_0 : decode cX8_does 0 = .ok (.aload_n 0, 1) := by decide +kernel
theorem dX8_does_1 : decode cX8_does 1 = .ok (.getfield 42, 3) := by decide +kernel
theorem dX8_does_4 : decode cX8_does 4 = .ok (.iconst 5, 1) := by decide +kernel
theorem dX8_does_5 : decode cX8_does 5 = .ok (.iload_n 1, 1) := by decide +kernel
theorem dX8_does_6 : decode cX8_does 6 = .ok (.imul, 1) := by decide +kernel
theorem dX8_does_7 : decode cX8_does 7 = .ok (.iconst 1, 1) := by decide +kernel
theorem dX8_does_8 : decode cX8_does 8 = .ok (.iadd, 1) := by decide +kernel
theorem dX8_does_9 : decode cX8_does 9 = .ok (.iaload, 1) := by decide +kernel
theorem dX8_does_10 : decode cX8_does 10 = .ok (.istore_n 2, 1) := by decide +kernel
theorem dX8_does_11 : decode cX8_does 11 = .ok (.aload_n 0, 1) := by decide +kernel
theorem dX8_does_12 : decode cX8_does 12 = .ok (.getfield 42, 3) := by decide +kernel
theorem dX8_does_15 : decode cX8_does 15 = .ok (.iconst 5, 1) := by decide +kernel
theorem dX8_does_16 : decode cX8_does 16 = .ok (.iload_n 1, 1) := by decide +kernel
theorem dX8_does_17 : decode cX8_does 17 = .ok (.imul, 1) := by decide +kernel
theorem dX8_does_18 : decode cX8_does 18 = .ok (.iconst 2, 1) := by decide +kernel
theorem dX8_does_19 : decode cX8_does 19 = .ok (.iadd, 1) := by decide +kernel
theorem dX8_does_20 : decode cX8_does 20 = .ok (.iaload, 1) := by decide +kernel
theorem dX8_does_21 : decode cX8_does 21 = .ok (.istore_n 3, 1) := by decide +kernel
theorem dX8_does_22 : decode cX8_does 22 = .ok (.aload_n 0, 1) := by decide +kernel
theorem dX8_does_23 : decode cX8_does 23 = .ok (.getfield 42, 3) := by decide +kernel
theorem dX8_does_26 : decode cX8_does 26 = .ok (.iconst 5, 1) := by decide +kernel
theorem dX8_does_27 : decode cX8_does 27 = .ok (.iload_n 1, 1) := by decide +kernel
theorem dX8_does_28 : decode cX8_does 28 = .ok (.imul, 1) := by decide +kernel
theorem dX8_does_29 : decode cX8_does 29 = .ok (.iaload, 1) := by decide +kernel
theorem dX8_does_30 : decode cX8_does 30 = .ok (.tableswitch 156 0 6 #[42, 42, 85, 99, 114, 133, 151], 42) := by decide +kernel
theorem dX8_does_72 : decode cX8_does 72 = .ok (.aload_n 0, 1) := by decide +kernel
theorem dX8_does_73 : decode cX8_does 73 = .ok (.iload_n 2, 1) := by decide +kernel
theorem dX8_does_74 : decode cX8_does 74 = .ok (.aload_n 0, 1) := by decide +kernel
theorem dX8_does_75 : decode cX8_does 75 = .ok (.getfield 42, 3) := by decide +kernel
theorem dX8_does_78 : decode cX8_does 78 = .ok (.iconst 5, 1) := by decide +kernel
theorem dX8_does_79 : decode cX8_does 79 = .ok (.iload_n 1, 1) := by decide +kernel
theorem dX8_does_80 : decode cX8_does 80 = .ok (.imul, 1) := by decide +kernel
theorem dX8_does_81 : decode cX8_does 81 = .ok (.iaload, 1) := by decide +kernel
theorem dX8_does_82 : decode cX8_does 82 = .ok (.aload_n 0, 1) := by decide +kernel
theorem dX8_does_83 : decode cX8_does 83 = .ok (.getfield 42, 3) := by decide +kernel
theorem dX8_does_86 : decode cX8_does 86 = .ok (.iconst 5, 1) := by decide +kernel
theorem dX8_does_87 : decode cX8_does 87 = .ok (.iload_n 1, 1) := by decide +kernel
theorem dX8_does_88 : decode cX8_does 88 = .ok (.imul, 1) := by decide +kernel
theorem dX8_does_89 : decode cX8_does 89 = .ok (.iconst 3, 1) := by decide +kernel
theorem dX8_does_90 : decode cX8_does 90 = .ok (.iadd, 1) := by decide +kernel
theorem dX8_does_91 : decode cX8_does 91 = .ok (.iaload, 1) := by decide +kernel
theorem dX8_does_92 : decode cX8_does 92 = .ok (.iload_n 3, 1) := by decide +kernel
theorem dX8_does_93 : decode cX8_does 93 = .ok (.aload_n 0, 1) := by decide +kernel
theorem dX8_does_94 : decode cX8_does 94 = .ok (.getfield 42, 3) := by decide +kernel
theorem dX8_does_97 : decode cX8_does 97 = .ok (.iconst 5, 1) := by decide +kernel
theorem dX8_does_98 : decode cX8_does 98 = .ok (.iload_n 1, 1) := by decide +kernel
theorem dX8_does_99 : decode cX8_does 99 = .ok (.imul, 1) := by decide +kernel
theorem dX8_does_100 : decode cX8_does 100 = .ok (.iconst 4, 1) := by decide +kernel
theorem dX8_does_101 : decode cX8_does 101 = .ok (.iadd, 1) := by decide +kernel
theorem dX8_does_102 : decode cX8_does 102 = .ok (.iaload, 1) := by decide +kernel
theorem dX8_does_103 : decode cX8_does 103 = .ok (.invokevirtual 181, 3) := by decide +kernel
theorem dX8_does_106 : decode cX8_does 106 = .ok (.ifCond .le 7, 3) := by decide +kernel
theorem dX8_does_109 : decode cX8_does 109 = .ok (.iconst 1, 1) := by decide +kernel
theorem dX8_does_110 : decode cX8_does 110 = .ok (.goto 4, 3) := by decide +kernel
theorem dX8_does_113 : decode cX8_does 113 = .ok (.iconst 0, 1) := by decide +kernel
theorem dX8_does_114 : decode cX8_does 114 = .ok (.ireturn, 1) := by decide +kernel
theorem dX8_does_115 : decode cX8_does 115 = .ok (.aload_n 0, 1) := by decide +kernel
theorem dX8_does_116 : decode cX8_does 116 = .ok (.iload_n 2, 1) := by decide +kernel
theorem dX8_does_117 : decode cX8_does 117 = .ok (.invokevirtual 187, 3) := by decide +kernel
theorem dX8_does_120 : decode cX8_does 120 = .ok (.ifCond .le 7, 3) := by decide +kernel
theorem dX8_does_123 : decode cX8_does 123 = .ok (.iconst 1, 1) := by decide +kernel
theorem dX8_does_124 : decode cX8_does 124 = .ok (.goto 4, 3) := by decide +kernel
theorem dX8_does_127 : decode cX8_does 127 = .ok (.iconst 0, 1) := by decide +kernel
theorem dX8_does_128 : decode cX8_does 128 = .ok (.ireturn, 1) := by decide +kernel
theorem dX8_does_129 : decode cX8_does 129 = .ok (.aload_n 0, 1) := by decide +kernel
theorem dX8_does_130 : decode cX8_does 130 = .ok (.iload_n 2, 1) := by decide +kernel
theorem dX8_does_131 : decode cX8_does 131 = .ok (.iload_n 3, 1) := by decide +kernel
theorem dX8_does_132 : decode cX8_does 132 = .ok (.invokevirtual 190, 3) := by decide +kernel
theorem dX8_does_135 : decode cX8_does 135 = .ok (.ifCond .le 7, 3) := by decide +kernel
theorem dX8_does_138 : decode cX8_does 138 = .ok (.iconst 1, 1) := by decide +kernel
theorem dX8_does_139 : decode cX8_does 139 = .ok (.goto 4, 3) := by decide +kernel
theorem dX8_does_142 : decode cX8_does 142 = .ok (.iconst 0, 1) := by decide +kernel
theorem dX8_does_143 : decode cX8_does 143 = .ok (.ireturn, 1) := by decide +kernel
theorem dX8_does_144 : decode cX8_does 144 = .ok (.aload_n 0, 1) := by decide +kernel
theorem dX8_does_145 : decode cX8_does 145 = .ok (.iconst 0, 1) := by decide +kernel
theorem dX8_does_146 : decode cX8_does 146 = .ok (.iload_n 2, 1) := by decide +kernel
theorem dX8_does_147 : decode cX8_does 147 = .ok (.iconst 0, 1) := by decide +kernel
theorem dX8_does_148 : decode cX8_does 148 = .ok (.sipush 1000, 3) := by decide +kernel
theorem dX8_does_151 : decode cX8_does 151 = .ok (.invokevirtual 193, 3) := by decide +kernel
theorem dX8_does_154 : decode cX8_does 154 = .ok (.ifCond .lt 7, 3) := by decide +kernel
theorem dX8_does_157 : decode cX8_does 157 = .ok (.iconst 1, 1) := by decide +kernel
theorem dX8_does_158 : decode cX8_does 158 = .ok (.goto 4, 3) := by decide +kernel
theorem dX8_does_161 : decode cX8_does 161 = .ok (.iconst 0, 1) := by decide +kernel
theorem dX8_does_162 : decode cX8_does 162 = .ok (.ireturn, 1) := by decide +kernel
theorem dX8_does_163 : decode cX8_does 163 = .ok (.aload_n 0, 1) := by decide +kernel
theorem dX8_does_164 : decode cX8_does 164 = .ok (.iconst 1, 1) := by decide +kernel
theorem dX8_does_165 : decode cX8_does 165 = .ok (.iload_n 2, 1) := by decide +kernel
theorem dX8_does_166 : decode cX8_does 166 = .ok (.iconst 1, 1) := by decide +kernel
theorem dX8_does_167 : decode cX8_does 167 = .ok (.bipush 50, 2) := by decide +kernel
theorem dX8_does_169 : decode cX8_does 169 = .ok (.invokevirtual 193, 3) := by decide +kernel
theorem dX8_does_172 : decode cX8_does 172 = .ok (.ifCond .lt 7, 3) := by decide +kernel
theorem dX8_does_175 : decode cX8_does 175 = .ok (.iconst 1, 1) := by decide +kernel
theorem dX8_does_176 : decode cX8_does 176 = .ok (.goto 4, 3) := by decide +kernel
theorem dX8_does_179 : decode cX8_does 179 = .ok (.iconst 0, 1) := by decide +kernel
theorem dX8_does_180 : decode cX8_does 180 = .ok (.ireturn, 1) := by decide +kernel
theorem dX8_does_181 : decode cX8_does 181 = .ok (.aload_n 0, 1) := by decide +kernel
theorem dX8_does_182 : decode cX8_does 182 = .ok (.invokevirtual 197, 3) := by decide +kernel
theorem dX8_does_185 : decode cX8_does 185 = .ok (.ireturn, 1) := by decide +kernel
theorem dX8_does_186 : decode cX8_does 186 = .ok (.aload_n 0, 1) := by decide +kernel
theorem dX8_does_187 : decode cX8_does 187 = .ok (.invokevirtual 232, 3) := by decide +kernel
theorem dX8_does_190 : decode cX8_does 190 = .ok (.ifCond .lt 7, 3) := by decide +kernel
theorem dX8_does_193 : decode cX8_does 193 = .ok (.iconst 1, 1) := by decide +kernel
theorem dX8_does_194 : decode cX8_does 194 = .ok (.goto 4, 3) := by decide +kernel
theorem dX8_does_197 : decode cX8_does 197 = .ok (.iconst 0, 1) := by decide +kernel
theorem dX8_does_198 : decode cX8_does 198 = .ok (.ireturn, 1) := by decide +kernel
set_option maxRecDepth 20000 in
theorem ggX8_message_X8_within : GoodIn wsX8_message wsX8_within := goodIn_r _ [12] (by decide +kernel) (by decide +kernel)
set_option maxRecDepth 20000 in
theorem gX8_message_X8_within : GoodIn wsX8_message (va_wsS RX8 158 yX8_within wsX8_within) := goodIn_app (goodIn_of _ (by decide +kernel)) ggX8_message_X8_within
set_option maxRecDepth 20000 in
theorem ggX8_message_X8_steps : GoodIn wsX8_message wsX8_steps := goodIn_r _ [16, 4, 17, 7, 18, 19, 20, 21, 22, 23, 24, 25, 11, 26, 3, 27, 9, 10, 12, 232, 233, 234, 235, 236, 237, 238, 239, 240, 241, 242, 243, 244, 245, 246, 247, 248, 249, 250, 251, 252, 253, 254, 255, 256, 257, 258, 259, 260, 261, 262, 263] (by decide +kernel) (by decide +kernel)
set_option maxRecDepth 20000 in
theorem gX8_message_X8_steps : GoodIn wsX8_message (wsV RX8 309 RX8 yX8_steps wsX8_steps) := goodIn_app (goodIn_of _ (by decide +kernel)) ggX8_message_X8_steps
set_option maxRecDepth 20000 in
theorem ggX8_message_X8_readsLine : GoodIn wsX8_message wsX8_readsLine := goodIn_r _ [31, 32, 6, 33, 34, 35, 36, 11, 37, 38, 39, 40, 41, 7, 4, 17, 23, 24, 25, 26, 3, 27, 42, 43, 44, 45, 5, 8, 13, 14, 15, 16, 18, 19, 20, 21, 22, 9, 10, 12, 46, 47, 48, 49, 50, 51, 52, 53, 54, 55, 56, 57, 58, 232, 233, 234, 235, 236, 237, 238, 239, 240, 241, 242, 243, 244, 245, 246, 247, 248, 249, 250, 251, 252, 253, 254, 255, 256, 257, 258, 259, 260, 261, 262, 263] (by decide +kernel) (by decide +kernel)
set_option maxRecDepth 20000 in
theorem gX8_message_X8_readsLine : GoodIn wsX8_message (wsV RX8 324 RX8 yX8_readsLine wsX8_readsLine) := goodIn_app (goodIn_of _ (by decide +kernel)) ggX8_message_X8_readsLine
set_option maxRecDepth 20000 in
theorem ggX8_message_X8_must : GoodIn wsX8_message wsX8_must := goodIn_r _ [45, 5, 17, 8, 232, 233, 234, 235, 236, 237, 238, 239, 240, 241, 242, 243, 244, 245, 246, 247, 248, 249, 250, 251, 252, 253, 254, 255, 256, 257, 258, 259, 260, 261, 262, 263] (by decide +kernel) (by decide +kernel)
set_option maxRecDepth 20000 in
theorem gX8_message_X8_must : GoodIn wsX8_message (wsV RX8 302 RX8 yX8_must wsX8_must) := goodIn_app (goodIn_of _ (by decide +kernel)) ggX8_message_X8_must
set_option maxRecDepth 20000 in
theorem ggX8_message_X8_does_h : GoodIn wsX8_message [Cond.code yX8_does cX8_does 4 (some .boolean)] := goodIn_r _ [62] (by decide +kernel) (by decide +kernel)
set_option maxRecDepth 20000 in
theorem ggX8_message_X8_does_1 : GoodIn wsX8_message wsX8_does_r1 := goodIn_r _ [32, 63, 64, 65, 11, 66, 67, 68, 69, 70, 71, 72, 73, 74, 75, 76, 77, 78, 79, 80, 81, 82, 83, 84] (by decide +kernel) (by decide +kernel)
set_option maxRecDepth 20000 in
theorem ggX8_message_X8_does_2 : GoodIn wsX8_message wsX8_does_r2 := goodIn_r _ [85, 86, 87, 88, 89, 90, 91, 92, 93, 94, 95, 96, 97, 98, 99, 100, 101, 102, 103, 104, 105, 106, 107, 108] (by decide +kernel) (by decide +kernel)
set_option maxRecDepth 20000 in
theorem ggX8_message_X8_does_3 : GoodIn wsX8_message wsX8_does_r3 := goodIn_r _ [109, 110, 111, 112, 113, 114, 115, 116, 117, 118, 119, 120, 121, 122, 123, 124, 125, 126, 127, 128, 129, 130, 131, 132] (by decide +kernel) (by decide +kernel)
set_option maxRecDepth 20000 in
theorem ggX8_message_X8_does_4 : GoodIn wsX8_message wsX8_does_r4 := goodIn_r _ [133, 134, 135, 136, 137, 138, 139, 140, 141, 142, 143, 144, 145, 146, 147, 148, 149, 150, 151, 152, 153, 154, 155, 156] (by decide +kernel) (by decide +kernel)
set_option maxRecDepth 20000 in
theorem ggX8_message_X8_does_5 : GoodIn wsX8_message wsX8_does_r5 := goodIn_r _ [157, 158, 159, 160, 161, 162, 163, 164, 165, 166, 167, 168, 169, 170, 171, 172, 173, 174, 175, 176, 177, 178, 179, 180] (by decide +kernel) (by decide +kernel)
set_option maxRecDepth 20000 in
theorem ggX8_message_X8_does_6 : GoodIn wsX8_message wsX8_does_r6 := goodIn_r _ [181, 182, 183, 184, 185, 186, 187, 188, 189, 190, 191, 192, 193, 9, 10, 12, 194, 195, 196, 197, 198, 199, 200, 201] (by decide +kernel) (by decide +kernel)
set_option maxRecDepth 20000 in
theorem ggX8_message_X8_does_7 : GoodIn wsX8_message wsX8_does_r7 := goodIn_r _ [202, 203, 204, 205, 206, 207, 208, 33, 209, 210, 211, 212, 213, 214, 215, 216, 217, 218, 219, 220, 221, 222, 223, 224] (by decide +kernel) (by decide +kernel)
set_option maxRecDepth 20000 in
theorem ggX8_message_X8_does_8 : GoodIn wsX8_message wsX8_does_r8 := goodIn_r _ [225, 226, 227, 228, 229, 230, 231] (by decide +kernel) (by decide +kernel)
set_option maxRecDepth 20000 in
theorem ggX8_message_X8_does_9 : GoodIn wsX8_message wsX80 := goodIn_r _ [232, 233, 234, 235, 236, 237, 238, 239, 240, 241, 242, 243, 244, 245, 246, 247, 248, 249, 250, 251, 252, 253, 254, 255, 256, 257, 258, 259, 260, 261, 262, 263] (by decide +kernel) (by decide +kernel)
theorem ggX8_message_X8_does : GoodIn wsX8_message wsX8_does := goodIn_app ggX8_message_X8_does_h (goodIn_app (goodIn_app ggX8_message_X8_does_1 (goodIn_app ggX8_message_X8_does_2 (goodIn_app ggX8_message_X8_does_3 (goodIn_app ggX8_message_X8_does_4 (goodIn_app ggX8_message_X8_does_5 (goodIn_app ggX8_message_X8_does_6 (goodIn_app ggX8_message_X8_does_7 ggX8_message_X8_does_8))))))) ggX8_message_X8_does_9)
set_option maxRecDepth 20000 in
theorem gX8_message_X8_does : GoodIn wsX8_message (wsV RX8 327 RX8 yX8_does wsX8_does) := goodIn_app (goodIn_of _ (by decide +kernel)) ggX8_message_X8_does
theorem dX8_message_0 : decode cX8_message 0 = .ok (.aload_n 0, 1) := by decide +kernel
theorem dX8_message_1 : decode cX8_message 1 = .ok (.iconst 0, 1) := by decide +kernel
theorem dX8_message_2 : decode cX8_message 2 = .ok (.putfield 45, 3) := by decide +kernel
theorem dX8_message_5 : decode cX8_message 5 = .ok (.iload_n 1, 1) := by decide +kernel
theorem dX8_message_6 : decode cX8_message 6 = .ok (.i2l, 1) := by decide +kernel
theorem dX8_message_7 : decode cX8_message 7 = .ok (.lconst 0, 1) := by decide +kernel
theorem dX8_message_8 : decode cX8_message 8 = .ok (.aload_n 0, 1) := by decide +kernel
theorem dX8_message_9 : decode cX8_message 9 = .ok (.getfield 264, 3) := by decide +kernel
theorem dX8_message_12 : decode cX8_message 12 = .ok (.i2l, 1) := by decide +kernel
theorem dX8_message_13 : decode cX8_message 13 = .ok (.invokestatic 158, 3) := by decide +kernel
theorem dX8_message_16 : decode cX8_message 16 = .ok (.ifCond .ne 5, 3) := by decide +kernel
theorem dX8_message_19 : decode cX8_message 19 = .ok (.iconst (-1), 1) := by decide +kernel
theorem dX8_message_20 : decode cX8_message 20 = .ok (.ireturn, 1) := by decide +kernel
theorem dX8_message_21 : decode cX8_message 21 = .ok (.aload_n 0, 1) := by decide +kernel
theorem dX8_message_22 : decode cX8_message 22 = .ok (.iconst 0, 1) := by decide +kernel
theorem dX8_message_23 : decode cX8_message 23 = .ok (.putfield 264, 3) := by decide +kernel
theorem dX8_message_26 : decode cX8_message 26 = .ok (.aload_n 0, 1) := by decide +kernel
theorem dX8_message_27 : decode cX8_message 27 = .ok (.iload_n 1, 1) := by decide +kernel
theorem dX8_message_28 : decode cX8_message 28 = .ok (.putfield 270, 3) := by decide +kernel
theorem dX8_message_31 : decode cX8_message 31 = .ok (.aload_n 0, 1) := by decide +kernel
theorem dX8_message_32 : decode cX8_message 32 = .ok (.iconst 0, 1) := by decide +kernel
theorem dX8_message_33 : decode cX8_message 33 = .ok (.putfield 273, 3) := by decide +kernel
theorem dX8_message_36 : decode cX8_message 36 = .ok (.aload_n 0, 1) := by decide +kernel
theorem dX8_message_37 : decode cX8_message 37 = .ok (.iconst 0, 1) := by decide +kernel
theorem dX8_message_38 : decode cX8_message 38 = .ok (.putfield 296, 3) := by decide +kernel
theorem dX8_message_41 : decode cX8_message 41 = .ok (.aload_n 0, 1) := by decide +kernel
theorem dX8_message_42 : decode cX8_message 42 = .ok (.iconst 0, 1) := by decide +kernel
theorem dX8_message_43 : decode cX8_message 43 = .ok (.putfield 306, 3) := by decide +kernel
theorem dX8_message_46 : decode cX8_message 46 = .ok (.iconst 1, 1) := by decide +kernel
theorem dX8_message_47 : decode cX8_message 47 = .ok (.istore_n 2, 1) := by decide +kernel
theorem dX8_message_48 : decode cX8_message 48 = .ok (.aload_n 0, 1) := by decide +kernel
theorem dX8_message_49 : decode cX8_message 49 = .ok (.invokevirtual 309, 3) := by decide +kernel
theorem dX8_message_52 : decode cX8_message 52 = .ok (.iload_n 2, 1) := by decide +kernel
theorem dX8_message_53 : decode cX8_message 53 = .ok (.ifCond .eq 71, 3) := by decide +kernel
theorem dX8_message_56 : decode cX8_message 56 = .ok (.aload_n 0, 1) := by decide +kernel
theorem dX8_message_57 : decode cX8_message 57 = .ok (.invokevirtual 324, 3) := by decide +kernel
theorem dX8_message_60 : decode cX8_message 60 = .ok (.istore_n 2, 1) := by decide +kernel
theorem dX8_message_61 : decode cX8_message 61 = .ok (.iload_n 2, 1) := by decide +kernel
theorem dX8_message_62 : decode cX8_message 62 = .ok (.ifCond .eq 13, 3) := by decide +kernel
theorem dX8_message_65 : decode cX8_message 65 = .ok (.aload_n 0, 1) := by decide +kernel
theorem dX8_message_66 : decode cX8_message 66 = .ok (.dup, 1) := by decide +kernel
theorem dX8_message_67 : decode cX8_message 67 = .ok (.getfield 306, 3) := by decide +kernel
theorem dX8_message_70 : decode cX8_message 70 = .ok (.iconst 1, 1) := by decide +kernel
theorem dX8_message_71 : decode cX8_message 71 = .ok (.iadd, 1) := by decide +kernel
theorem dX8_message_72 : decode cX8_message 72 = .ok (.putfield 306, 3) := by decide +kernel
theorem dX8_message_75 : decode cX8_message 75 = .ok (.iload_n 2, 1) := by decide +kernel
theorem dX8_message_76 : decode cX8_message 76 = .ok (.ifCond .eq 35, 3) := by decide +kernel
theorem dX8_message_79 : decode cX8_message 79 = .ok (.aload_n 0, 1) := by decide +kernel
theorem dX8_message_80 : decode cX8_message 80 = .ok (.getfield 282, 3) := by decide +kernel
theorem dX8_message_83 : decode cX8_message 83 = .ok (.ifCond .eq 28, 3) := by decide +kernel
theorem dX8_message_86 : decode cX8_message 86 = .ok (.aload_n 0, 1) := by decide +kernel
theorem dX8_message_87 : decode cX8_message 87 = .ok (.aload_n 0, 1) := by decide +kernel
theorem dX8_message_88 : decode cX8_message 88 = .ok (.getfield 282, 3) := by decide +kernel
theorem dX8_message_91 : decode cX8_message 91 = .ok (.iconst 3, 1) := by decide +kernel
theorem dX8_message_92 : decode cX8_message 92 = .ok (.if_icmp .ne 7, 3) := by decide +kernel
theorem dX8_message_95 : decode cX8_message 95 = .ok (.iconst 1, 1) := by decide +kernel
theorem dX8_message_96 : decode cX8_message 96 = .ok (.goto 4, 3) := by decide +kernel
theorem dX8_message_99 : decode cX8_message 99 = .ok (.iconst 0, 1) := by decide +kernel
theorem dX8_message_100 : decode cX8_message 100 = .ok (.iconst 1, 1) := by decide +kernel
theorem dX8_message_101 : decode cX8_message 101 = .ok (.invokevirtual 302, 3) := by decide +kernel
theorem dX8_message_104 : decode cX8_message 104 = .ok (.ifCond .eq 7, 3) := by decide +kernel
theorem dX8_message_107 : decode cX8_message 107 = .ok (.iconst 1, 1) := by decide +kernel
theorem dX8_message_108 : decode cX8_message 108 = .ok (.goto 4, 3) := by decide +kernel
theorem dX8_message_111 : decode cX8_message 111 = .ok (.iconst 0, 1) := by decide +kernel
theorem dX8_message_112 : decode cX8_message 112 = .ok (.istore_n 2, 1) := by decide +kernel
theorem dX8_message_113 : decode cX8_message 113 = .ok (.iload_n 2, 1) := by decide +kernel
theorem dX8_message_114 : decode cX8_message 114 = .ok (.ifCond .eq (-62), 3) := by decide +kernel
theorem dX8_message_117 : decode cX8_message 117 = .ok (.aload_n 0, 1) := by decide +kernel
theorem dX8_message_118 : decode cX8_message 118 = .ok (.invokevirtual 309, 3) := by decide +kernel
theorem dX8_message_121 : decode cX8_message 121 = .ok (.goto (-69), 3) := by decide +kernel
theorem dX8_message_124 : decode cX8_message 124 = .ok (.aload_n 0, 1) := by decide +kernel
theorem dX8_message_125 : decode cX8_message 125 = .ok (.getfield 296, 3) := by decide +kernel
theorem dX8_message_128 : decode cX8_message 128 = .ok (.ifCond .le 19, 3) := by decide +kernel
theorem dX8_message_131 : decode cX8_message 131 = .ok (.bipush (-2), 2) := by decide +kernel
theorem dX8_message_133 : decode cX8_message 133 = .ok (.bipush 8, 2) := by decide +kernel
theorem dX8_message_135 : decode cX8_message 135 = .ok (.aload_n 0, 1) := by decide +kernel
theorem dX8_message_136 : decode cX8_message 136 = .ok (.getfield 299, 3) := by decide +kernel
theorem dX8_message_139 : decode cX8_message 139 = .ok (.imul, 1) := by decide +kernel
theorem dX8_message_140 : decode cX8_message 140 = .ok (.aload_n 0, 1) := by decide +kernel
theorem dX8_message_141 : decode cX8_message 141 = .ok (.getfield 296, 3) := by decide +kernel
theorem dX8_message_144 : decode cX8_message 144 = .ok (.iadd, 1) := by decide +kernel
theorem dX8_message_145 : decode cX8_message 145 = .ok (.isub, 1) := by decide +kernel
theorem dX8_message_146 : decode cX8_message 146 = .ok (.ireturn, 1) := by decide +kernel
theorem dX8_message_147 : decode cX8_message 147 = .ok (.iconst 0, 1) := by decide +kernel
theorem dX8_message_148 : decode cX8_message 148 = .ok (.istore_n 3, 1) := by decide +kernel
theorem dX8_message_149 : decode cX8_message 149 = .ok (.iconst 0, 1) := by decide +kernel
theorem dX8_message_150 : decode cX8_message 150 = .ok (.istore 4, 2) := by decide +kernel
theorem dX8_message_152 : decode cX8_message 152 = .ok (.iload 4, 2) := by decide +kernel
theorem dX8_message_154 : decode cX8_message 154 = .ok (.aload_n 0, 1) := by decide +kernel
theorem dX8_message_155 : decode cX8_message 155 = .ok (.getfield 306, 3) := by decide +kernel
theorem dX8_message_158 : decode cX8_message 158 = .ok (.if_icmp .ge 21, 3) := by decide +kernel
theorem dX8_message_161 : decode cX8_message 161 = .ok (.aload_n 0, 1) := by decide +kernel
theorem dX8_message_162 : decode cX8_message 162 = .ok (.iload 4, 2) := by decide +kernel
theorem dX8_message_164 : decode cX8_message 164 = .ok (.invokevirtual 327, 3) := by decide +kernel
