theorem dX7_message_72 : decode cX7_message 72 = .ok (.ireturn, 1) := by decide +kernel
theorem dX7_message_73 : decode cX7_message 73 = .ok (.iinc 2 1, 3) := by decide +kernel
theorem dX7_message_76 : decode cX7_message 76 = .ok (.goto (-41), 3) := by decide +kernel
theorem dX7_message_79 : decode cX7_message 79 = .ok (.aload_n 0, 1) := by decide +kernel
theorem dX7_message_80 : decode cX7_message 80 = .ok (.getfield 22, 3) := by decide +kernel
theorem dX7_message_83 : decode cX7_message 83 = .ok (.iload_n 1, 1) := by decide +kernel
theorem dX7_message_84 : decode cX7_message 84 = .ok (.invokevirtual 34, 3) := by decide +kernel
theorem dX7_message_87 : decode cX7_message 87 = .ok (.iconst 0, 1) := by decide +kernel
theorem dX7_message_88 : decode cX7_message 88 = .ok (.istore_n 2, 1) := by decide +kernel
theorem dX7_message_89 : decode cX7_message 89 = .ok (.iconst 0, 1) := by decide +kernel
theorem dX7_message_90 : decode cX7_message 90 = .ok (.istore_n 3, 1) := by decide +kernel
theorem dX7_message_91 : decode cX7_message 91 = .ok (.iload_n 3, 1) := by decide +kernel
theorem dX7_message_92 : decode cX7_message 92 = .ok (.sipush 500, 3) := by decide +kernel
theorem dX7_message_95 : decode cX7_message 95 = .ok (.if_icmp .ge 53, 3) := by decide +kernel
theorem dX7_message_98 : decode cX7_message 98 = .ok (.aload_n 0, 1) := by decide +kernel
theorem dX7_message_99 : decode cX7_message 99 = .ok (.getfield 22, 3) := by decide +kernel
theorem dX7_message_102 : decode cX7_message 102 = .ok (.getfield 37, 3) := by decide +kernel
theorem dX7_message_105 : decode cX7_message 105 = .ok (.ifCond .eq 43, 3) := by decide +kernel
theorem dX7_message_108 : decode cX7_message 108 = .ok (.aload_n 0, 1) := by decide +kernel
theorem dX7_message_109 : decode cX7_message 109 = .ok (.getfield 22, 3) := by decide +kernel
theorem dX7_message_112 : decode cX7_message 112 = .ok (.invokevirtual 41, 3) := by decide +kernel
theorem dX7_message_115 : decode cX7_message 115 = .ok (.ifCond .eq 27, 3) := by decide +kernel
theorem dX7_message_118 : decode cX7_message 118 = .ok (.aload_n 0, 1) := by decide +kernel
theorem dX7_message_119 : decode cX7_message 119 = .ok (.aload_n 0, 1) := by decide +kernel
theorem dX7_message_120 : decode cX7_message 120 = .ok (.getfield 22, 3) := by decide +kernel
theorem dX7_message_123 : decode cX7_message 123 = .ok (.getfield 48, 3) := by decide +kernel
theorem dX7_message_126 : decode cX7_message 126 = .ok (.aload_n 0, 1) := by decide +kernel
theorem dX7_message_127 : decode cX7_message 127 = .ok (.getfield 22, 3) := by decide +kernel
theorem dX7_message_130 : decode cX7_message 130 = .ok (.getfield 51, 3) := by decide +kernel
theorem dX7_message_133 : decode cX7_message 133 = .ok (.invokevirtual 55, 3) := by decide +kernel
theorem dX7_message_136 : decode cX7_message 136 = .ok (.ifCond .eq 6, 3) := by decide +kernel
theorem dX7_message_139 : decode cX7_message 139 = .ok (.iinc 2 1, 3) := by decide +kernel
theorem dX7_message_142 : decode cX7_message 142 = .ok (.iinc 3 1, 3) := by decide +kernel
theorem dX7_message_145 : decode cX7_message 145 = .ok (.goto (-54), 3) := by decide +kernel
theorem dX7_message_148 : decode cX7_message 148 = .ok (.iload_n 2, 1) := by decide +kernel
theorem dX7_message_149 : decode cX7_message 149 = .ok (.ireturn, 1) := by decide +kernel
set_option maxRecDepth 20000 in
theorem ggX7_doLine_X2_comeIn_h : GoodIn wsX7_doLine [Cond.code yX2_comeIn cX2_comeIn 6 (some .int)] := goodIn_r _ [8] (by decide +kernel) (by decide +kernel)
set_option maxRecDepth 20000 in
theorem ggX7_doLine_X2_comeIn_1 : GoodIn wsX7_doLine wsX2_comeIn_r1 := goodIn_r _ [9, 10, 11, 12, 13, 14, 15, 16, 17, 18, 19, 20, 21, 22, 23, 24, 25, 26, 27, 28, 29, 30, 31, 32] (by decide +kernel) (by decide +kernel)
set_option maxRecDepth 20000 in
theorem ggX7_doLine_X2_comeIn_2 : GoodIn wsX7_doLine wsX2_comeIn_r2 := goodIn_r _ [33, 7, 34, 35, 36, 37, 38, 39, 40, 41, 42, 43, 44, 45, 46, 47, 48, 49, 50, 51, 52, 53, 54, 55] (by decide +kernel) (by decide +kernel)
set_option maxRecDepth 20000 in
theorem ggX7_doLine_X2_comeIn_3 : GoodIn wsX7_doLine wsX2_comeIn_r3 := goodIn_r _ [56, 57, 58, 59, 60, 61, 62, 63, 64, 65, 66, 67, 68, 69, 70, 71, 72, 73, 74, 75, 76, 77, 78, 79] (by decide +kernel) (by decide +kernel)
set_option maxRecDepth 20000 in
theorem ggX7_doLine_X2_comeIn_4 : GoodIn wsX7_doLine wsX2_comeIn_r4 := goodIn_r _ [80, 81, 82, 83, 84, 85, 86, 87, 88, 89, 90, 91, 92, 93, 94, 95, 96, 97, 98, 99, 100, 101, 102, 103] (by decide +kernel) (by decide +kernel)
set_option maxRecDepth 20000 in
theorem ggX7_doLine_X2_comeIn_5 : GoodIn wsX7_doLine wsX2_comeIn_r5 := goodIn_r _ [104, 105, 106, 107, 108, 109, 110, 111, 112, 113, 114, 115, 116, 117, 118, 119, 120, 121, 122, 123, 124, 125, 126, 127] (by decide +kernel) (by decide +kernel)
set_option maxRecDepth 20000 in
theorem ggX7_doLine_X2_comeIn_6 : GoodIn wsX7_doLine wsX2_comeIn_r6 := goodIn_r _ [128, 129, 130, 131, 132, 133, 134, 135, 136, 137, 138, 139, 140, 141, 142, 143, 144, 145, 146, 147, 148, 149, 150, 151] (by decide +kernel) (by decide +kernel)
set_option maxRecDepth 20000 in
theorem ggX7_doLine_X2_comeIn_7 : GoodIn wsX7_doLine wsX2_comeIn_r7 := goodIn_r _ [152, 153, 154, 155, 156, 157, 158, 159, 160, 161, 162, 163, 164, 165, 166, 167, 168, 169, 170, 171, 172, 173, 174, 175] (by decide +kernel) (by decide +kernel)
set_option maxRecDepth 20000 in
theorem ggX7_doLine_X2_comeIn_8 : GoodIn wsX7_doLine wsX2_comeIn_r8 := goodIn_r _ [176, 177] (by decide +kernel) (by decide +kernel)
set_option maxRecDepth 20000 in
theorem ggX7_doLine_X2_comeIn_9 : GoodIn wsX7_doLine wsX20 := goodIn_r _ [272, 273, 274, 275, 276, 277, 278, 279, 280, 281, 282, 283] (by decide +kernel) (by decide +kernel)
set_option maxRecDepth 20000 in
theorem ggX7_doLine_X2_comeIn_10 : GoodIn wsX7_doLine wsX40 := goodIn_r _ [284, 285, 286, 287, 288, 289] (by decide +kernel) (by decide +kernel)
set_option maxRecDepth 20000 in
theorem ggX7_doLine_X2_comeIn_11 : GoodIn wsX7_doLine wsX00 := goodIn_r _ [290, 291, 292, 293] (by decide +kernel) (by decide +kernel)
set_option maxRecDepth 20000 in
theorem ggX7_doLine_X2_comeIn_12 : GoodIn wsX7_doLine wsX50 := goodIn_r _ [294, 295, 296, 297, 298, 299, 300, 301] (by decide +kernel) (by decide +kernel)
set_option maxRecDepth 20000 in
theorem ggX7_doLine_X2_comeIn_13 : GoodIn wsX7_doLine wsX30 := goodIn_r _ [302, 303, 304, 305, 306, 307, 308] (by decide +kernel) (by decide +kernel)
theorem ggX7_doLine_X2_comeIn : GoodIn wsX7_doLine wsX2_comeIn := goodIn_app ggX7_doLine_X2_comeIn_h (goodIn_app (goodIn_app (goodIn_app (goodIn_app (goodIn_app (goodIn_app ggX7_doLine_X2_comeIn_1 (goodIn_app ggX7_doLine_X2_comeIn_2 (goodIn_app ggX7_doLine_X2_comeIn_3 (goodIn_app ggX7_doLine_X2_comeIn_4 (goodIn_app ggX7_doLine_X2_comeIn_5 (goodIn_app ggX7_doLine_X2_comeIn_6 (goodIn_app ggX7_doLine_X2_comeIn_7 ggX7_doLine_X2_comeIn_8))))))) ggX7_doLine_X2_comeIn_9) ggX7_doLine_X2_comeIn_10) ggX7_doLine_X2_comeIn_11) ggX7_doLine_X2_comeIn_12) ggX7_doLine_X2_comeIn_13)
set_option maxRecDepth 20000 in
theorem gX7_doLine_X2_comeIn : GoodIn wsX7_doLine (wsV RX7 62 RX2 yX2_comeIn wsX2_comeIn) := goodIn_app (goodIn_of _ (by decide +kernel)) ggX7_doLine_X2_comeIn
set_option maxRecDepth 20000 in
theorem ggX7_doLine_X7_off : GoodIn wsX7_doLine wsX7_off := goodIn_r _ [181, 1, 182, 183, 184, 185, 186, 17, 187, 19, 46, 84, 188, 75, 76, 77, 78, 79, 80, 81, 82, 83, 47, 85, 257, 258, 259, 272, 273, 274, 275, 276, 277, 278, 279, 280, 281, 282, 283, 284, 285, 286, 287, 288, 289, 290, 291, 292, 293] (by decide +kernel) (by decide +kernel)
set_option maxRecDepth 20000 in
theorem gX7_doLine_X7_off : GoodIn wsX7_doLine (wsV RX7 66 RX7 yX7_off wsX7_off) := goodIn_app (goodIn_of _ (by decide +kernel)) ggX7_doLine_X7_off
set_option maxRecDepth 20000 in
theorem ggX7_doLine_X7_cut : GoodIn wsX7_doLine wsX7_cut := goodIn_r _ [192, 1, 182, 183, 184, 185, 186, 17, 187, 19, 46, 84, 193, 80, 81, 82, 83, 47, 85, 257, 258, 259, 272, 273, 274, 275, 276, 277, 278, 279, 280, 281, 282, 283, 284, 285, 286, 287, 288, 289, 290, 291, 292, 293] (by decide +kernel) (by decide +kernel)
set_option maxRecDepth 20000 in
theorem gX7_doLine_X7_cut : GoodIn wsX7_doLine (wsV RX7 70 RX7 yX7_cut wsX7_cut) := goodIn_app (goodIn_of _ (by decide +kernel)) ggX7_doLine_X7_cut
set_option maxRecDepth 20000 in
theorem ggX7_doLine_X7_grant : GoodIn wsX7_doLine wsX7_grant := goodIn_r _ [197, 1, 198, 257, 258, 259, 272, 273, 274, 275, 276, 277, 278, 279, 280, 281, 282, 283] (by decide +kernel) (by decide +kernel)
set_option maxRecDepth 20000 in
theorem gX7_doLine_X7_grant : GoodIn wsX7_doLine (wsV RX7 74 RX7 yX7_grant wsX7_grant) := goodIn_app (goodIn_of _ (by decide +kernel)) ggX7_doLine_X7_grant
set_option maxRecDepth 20000 in
theorem ggX7_doLine_X7_least : GoodIn wsX7_doLine wsX7_least := goodIn_r _ [202, 1, 203, 257, 258, 259, 272, 273, 274, 275, 276, 277, 278, 279, 280, 281, 282, 283] (by decide +kernel) (by decide +kernel)
set_option maxRecDepth 20000 in
theorem gX7_doLine_X7_least : GoodIn wsX7_doLine (wsV RX7 77 RX7 yX7_least wsX7_least) := goodIn_app (goodIn_of _ (by decide +kernel)) ggX7_doLine_X7_least
set_option maxRecDepth 20000 in
theorem ggX7_doLine_X7_call : GoodIn wsX7_doLine wsX7_call := goodIn_r _ [207, 1, 208, 182, 209, 210, 211, 17, 212, 83, 85, 257, 258, 259, 272, 273, 274, 275, 276, 277, 278, 279, 280, 281, 282, 283, 290, 291, 292, 293] (by decide +kernel) (by decide +kernel)
set_option maxRecDepth 20000 in
theorem gX7_doLine_X7_call : GoodIn wsX7_doLine (wsV RX7 80 RX7 yX7_call wsX7_call) := goodIn_app (goodIn_of _ (by decide +kernel)) ggX7_doLine_X7_call
set_option maxRecDepth 20000 in
theorem ggX7_doLine_X7_open_h : GoodIn wsX7_doLine [Cond.code yX7_open cX7_open 1 (some .int)] := goodIn_r _ [216] (by decide +kernel) (by decide +kernel)
set_option maxRecDepth 20000 in
theorem ggX7_doLine_X7_open_1 : GoodIn wsX7_doLine wsX7_open_r1 := goodIn_r _ [1, 208, 217, 218, 219, 7, 220, 9, 221, 10, 97, 222, 223, 98, 224, 225, 226, 227, 228, 229, 230, 231, 232, 233] (by decide +kernel) (by decide +kernel)
set_option maxRecDepth 20000 in
theorem ggX7_doLine_X7_open_2 : GoodIn wsX7_doLine wsX7_open_r2 := goodIn_r _ [234, 235, 236, 237, 238, 239, 240, 241, 242, 70, 71, 72, 243, 244, 245, 246, 247, 248, 249, 250, 251, 252, 253, 90] (by decide +kernel) (by decide +kernel)
set_option maxRecDepth 20000 in
theorem ggX7_doLine_X7_open_3 : GoodIn wsX7_doLine wsX7_open_r3 := goodIn_r _ [91, 254, 255, 92, 95, 96, 69, 37, 38, 39, 17, 40, 41, 42, 43, 44, 45, 19, 46, 47, 48, 49, 50, 51] (by decide +kernel) (by decide +kernel)
set_option maxRecDepth 20000 in
theorem ggX7_doLine_X7_open_4 : GoodIn wsX7_doLine wsX7_open_r4 := goodIn_r _ [99, 100, 101, 102, 103, 104, 105, 106, 107, 108, 109, 60, 61, 62, 110, 111, 112, 113, 83, 84, 85, 114, 115, 116] (by decide +kernel) (by decide +kernel)
set_option maxRecDepth 20000 in
theorem ggX7_doLine_X7_open_5 : GoodIn wsX7_doLine wsX7_open_r5 := goodIn_r _ [117, 118, 119, 120, 132, 133, 134, 135, 136, 137, 13, 94, 58, 35, 138, 139, 140, 141, 142, 143, 144, 145, 146, 147] (by decide +kernel) (by decide +kernel)
set_option maxRecDepth 20000 in
theorem ggX7_doLine_X7_open_6 : GoodIn wsX7_doLine wsX7_open_r6 := goodIn_r _ [148, 149, 150, 151, 152, 153, 154, 155, 156, 157, 121, 122, 123, 124, 125, 126, 127, 128, 129, 130, 131, 256, 74, 75] (by decide +kernel) (by decide +kernel)
set_option maxRecDepth 20000 in
theorem ggX7_doLine_X7_open_7 : GoodIn wsX7_doLine wsX7_open_r7 := goodIn_r _ [76, 77, 78, 79, 80, 81, 82] (by decide +kernel) (by decide +kernel)
set_option maxRecDepth 20000 in
theorem ggX7_doLine_X7_open_8 : GoodIn wsX7_doLine wsX70 := goodIn_r _ [257, 258, 259] (by decide +kernel) (by decide +kernel)
set_option maxRecDepth 20000 in
theorem ggX7_doLine_X7_open_9 : GoodIn wsX7_doLine wsX20 := goodIn_r _ [272, 273, 274, 275, 276, 277, 278, 279, 280, 281, 282, 283] (by decide +kernel) (by decide +kernel)
set_option maxRecDepth 20000 in
theorem ggX7_doLine_X7_open_10 : GoodIn wsX7_doLine wsX30 := goodIn_r _ [302, 303, 304, 305, 306, 307, 308] (by decide +kernel) (by decide +kernel)
set_option maxRecDepth 20000 in
theorem ggX7_doLine_X7_open_11 : GoodIn wsX7_doLine wsX10 := goodIn_r _ [309, 310, 311] (by decide +kernel) (by decide +kernel)
set_option maxRecDepth 20000 in
theorem ggX7_doLine_X7_open_12 : GoodIn wsX7_doLine wsX00 := goodIn_r _ [290, 291, 292, 293] (by decide +kernel) (by decide +kernel)
set_option maxRecDepth 20000 in
theorem ggX7_doLine_X7_open_13 : GoodIn wsX7_doLine wsX40 := goodIn_r _ [284, 285, 286, 287, 288, 289] (by decide +kernel) (by decide +kernel)
set_option maxRecDepth 20000 in
theorem ggX7_doLine_X7_open_14 : GoodIn wsX7_doLine wsX50 := goodIn_r _ [294, 295, 296, 297, 298, 299, 300, 301] (by decide +kernel) (by decide +kernel)
theorem ggX7_doLine_X7_open : GoodIn wsX7_doLine wsX7_open := goodIn_app ggX7_doLine_X7_open_h (goodIn_app (goodIn_app (goodIn_app (goodIn_app (goodIn_app (goodIn_app (goodIn_app (goodIn_app ggX7_doLine_X7_open_1 (goodIn_app ggX7_doLine_X7_open_2 (goodIn_app ggX7_doLine_X7_open_3 (goodIn_app ggX7_doLine_X7_open_4 (goodIn_app ggX7_doLine_X7_open_5 (goodIn_app ggX7_doLine_X7_open_6 ggX7_doLine_X7_open_7)))))) ggX7_doLine_X7_open_8) ggX7_doLine_X7_open_9) ggX7_doLine_X7_open_10) ggX7_doLine_X7_open_11) ggX7_doLine_X7_open_12) ggX7_doLine_X7_open_13) ggX7_doLine_X7_open_14)
set_option maxRecDepth 20000 in
theorem gX7_doLine_X7_open : GoodIn wsX7_doLine (wsV RX7 83 RX7 yX7_open wsX7_open) := goodIn_app (goodIn_of _ (by decide +kernel)) ggX7_doLine_X7_open
theorem dX7_doLine_0 : decode cX7_doLine 0 = .ok (.iload_n 1, 1) := by decide +kernel
theorem dX7_doLine_1 : decode cX7_doLine 1 = .ok (.tableswitch 185 0 6 #[43, 76, 109, 126, 146, 163, 180], 43) := by decide +kernel
theorem dX7_doLine_44 : decode cX7_doLine 44 = .ok (.aload_n 0, 1) := by decide +kernel
theorem dX7_doLine_45 : decode cX7_doLine 45 = .ok (.getfield 10, 3) := by decide +kernel
theorem dX7_doLine_48 : decode cX7_doLine 48 = .ok (.aload_n 2, 1) := by decide +kernel
theorem dX7_doLine_49 : decode cX7_doLine 49 = .ok (.iconst 0, 1) := by decide +kernel
theorem dX7_doLine_50 : decode cX7_doLine 50 = .ok (.iaload, 1) := by decide +kernel
theorem dX7_doLine_51 : decode cX7_doLine 51 = .ok (.iconst 0, 1) := by decide +kernel
theorem dX7_doLine_52 : decode cX7_doLine 52 = .ok (.aload_n 2, 1) := by decide +kernel
theorem dX7_doLine_53 : decode cX7_doLine 53 = .ok (.iconst 2, 1) := by decide +kernel
theorem dX7_doLine_54 : decode cX7_doLine 54 = .ok (.iaload, 1) := by decide +kernel
theorem dX7_doLine_55 : decode cX7_doLine 55 = .ok (.aload_n 2, 1) := by decide +kernel
theorem dX7_doLine_56 : decode cX7_doLine 56 = .ok (.iconst 1, 1) := by decide +kernel
theorem dX7_doLine_57 : decode cX7_doLine 57 = .ok (.iaload, 1) := by decide +kernel
theorem dX7_doLine_58 : decode cX7_doLine 58 = .ok (.aload_n 0, 1) := by decide +kernel
theorem dX7_doLine_59 : decode cX7_doLine 59 = .ok (.getfield 22, 3) := by decide +kernel
theorem dX7_doLine_62 : decode cX7_doLine 62 = .ok (.getfield 59, 3) := by decide +kernel
theorem dX7_doLine_65 : decode cX7_doLine 65 = .ok (.invokevirtual 62, 3) := by decide +kernel
theorem dX7_doLine_68 : decode cX7_doLine 68 = .ok (.ifCond .le 7, 3) := by decide +kernel
theorem dX7_doLine_71 : decode cX7_doLine 71 = .ok (.iconst 1, 1) := by decide +kernel
theorem dX7_doLine_72 : decode cX7_doLine 72 = .ok (.goto 4, 3) := by decide +kernel
theorem dX7_doLine_75 : decode cX7_doLine 75 = .ok (.iconst 0, 1) := by decide +kernel
theorem dX7_doLine_76 : decode cX7_doLine 76 = .ok (.ireturn, 1) := by decide +kernel
theorem dX7_doLine_77 : decode cX7_doLine 77 = .ok (.aload_n 0, 1) := by decide +kernel
theorem dX7_doLine_78 : decode cX7_doLine 78 = .ok (.getfield 10, 3) := by decide +kernel
theorem dX7_doLine_81 : decode cX7_doLine 81 = .ok (.aload_n 2, 1) := by decide +kernel
theorem dX7_doLine_82 : decode cX7_doLine 82 = .ok (.iconst 0, 1) := by decide +kernel
theorem dX7_doLine_83 : decode cX7_doLine 83 = .ok (.iaload, 1) := by decide +kernel
theorem dX7_doLine_84 : decode cX7_doLine 84 = .ok (.iconst 1, 1) := by decide +kernel
theorem dX7_doLine_85 : decode cX7_doLine 85 = .ok (.aload_n 2, 1) := by decide +kernel
theorem dX7_doLine_86 : decode cX7_doLine 86 = .ok (.iconst 2, 1) := by decide +kernel
theorem dX7_doLine_87 : decode cX7_doLine 87 = .ok (.iaload, 1) := by decide +kernel
theorem dX7_doLine_88 : decode cX7_doLine 88 = .ok (.aload_n 2, 1) := by decide +kernel
theorem dX7_doLine_89 : decode cX7_doLine 89 = .ok (.iconst 1, 1) := by decide +kernel
theorem dX7_doLine_90 : decode cX7_doLine 90 = .ok (.iaload, 1) := by decide +kernel
theorem dX7_doLine_91 : decode cX7_doLine 91 = .ok (.aload_n 0, 1) := by decide +kernel
theorem dX7_doLine_92 : decode cX7_doLine 92 = .ok (.getfield 22, 3) := by decide +kernel
theorem dX7_doLine_95 : decode cX7_doLine 95 = .ok (.getfield 59, 3) := by decide +kernel
theorem dX7_doLine_98 : decode cX7_doLine 98 = .ok (.invokevirtual 62, 3) := by decide +kernel
theorem dX7_doLine_101 : decode cX7_doLine 101 = .ok (.ifCond .le 7, 3) := by decide +kernel
theorem dX7_doLine_104 : decode cX7_doLine 104 = .ok (.iconst 1, 1) := by decide +kernel
theorem dX7_doLine_105 : decode cX7_doLine 105 = .ok (.goto 4, 3) := by decide +kernel
theorem dX7_doLine_108 : decode cX7_doLine 108 = .ok (.iconst 0, 1) := by decide +kernel
theorem dX7_doLine_109 : decode cX7_doLine 109 = .ok (.ireturn, 1) := by decide +kernel
theorem dX7_doLine_110 : decode cX7_doLine 110 = .ok (.aload_n 0, 1) := by decide +kernel
theorem dX7_doLine_111 : decode cX7_doLine 111 = .ok (.aload_n 2, 1) := by decide +kernel
theorem dX7_doLine_112 : decode cX7_doLine 112 = .ok (.iconst 0, 1) := by decide +kernel
theorem dX7_doLine_113 : decode cX7_doLine 113 = .ok (.iaload, 1) := by decide +kernel
theorem dX7_doLine_114 : decode cX7_doLine 114 = .ok (.invokevirtual 66, 3) := by decide +kernel
theorem dX7_doLine_117 : decode cX7_doLine 117 = .ok (.iconst (-1), 1) := by decide +kernel
theorem dX7_doLine_118 : decode cX7_doLine 118 = .ok (.if_icmp .eq 7, 3) := by decide +kernel
theorem dX7_doLine_121 : decode cX7_doLine 121 = .ok (.iconst 1, 1) := by decide +kernel
theorem dX7_doLine_122 : decode cX7_doLine 122 = .ok (.goto 4, 3) := by decide +kernel
theorem dX7_doLine_125 : decode cX7_doLine 125 = .ok (.iconst 0, 1) := by decide +kernel
theorem dX7_doLine_126 : decode cX7_doLine 126 = .ok (.ireturn, 1) := by decide +kernel
theorem dX7_doLine_127 : decode cX7_doLine 127 = .ok (.aload_n 0, 1) := by decide +kernel
theorem dX7_doLine_128 : decode cX7_doLine 128 = .ok (.aload_n 2, 1) := by decide +kernel
theorem dX7_doLine_129 : decode cX7_doLine 129 = .ok (.iconst 0, 1) := by decide +kernel
theorem dX7_doLine_130 : decode cX7_doLine 130 = .ok (.iaload, 1) := by decide +kernel
theorem dX7_doLine_131 : decode cX7_doLine 131 = .ok (.aload_n 2, 1) := by decide +kernel
theorem dX7_doLine_132 : decode cX7_doLine 132 = .ok (.iconst 1, 1) := by decide +kernel
theorem dX7_doLine_133 : decode cX7_doLine 133 = .ok (.iaload, 1) := by decide +kernel
theorem dX7_doLine_134 : decode cX7_doLine 134 = .ok (.invokevirtual 70, 3) := by decide +kernel
theorem dX7_doLine_137 : decode cX7_doLine 137 = .ok (.iconst (-1), 1) := by decide +kernel
theorem dX7_doLine_138 : decode cX7_doLine 138 = .ok (.if_icmp .eq 7, 3) := by decide +kernel
theorem dX7_doLine_141 : decode cX7_doLine 141 = .ok (.iconst 1, 1) := by decide +kernel
theorem dX7_doLine_142 : decode cX7_doLine 142 = .ok (.goto 4, 3) := by decide +kernel
theorem dX7_doLine_145 : decode cX7_doLine 145 = .ok (.iconst 0, 1) := by decide +kernel
theorem dX7_doLine_146 : decode cX7_doLine 146 = .ok (.ireturn, 1) := by decide +kernel
theorem dX7_doLine_147 : decode cX7_doLine 147 = .ok (.aload_n 0, 1) := by decide +kernel
theorem dX7_doLine_148 : decode cX7_doLine 148 = .ok (.aload_n 2, 1) := by decide +kernel
theorem dX7_doLine_149 : decode cX7_doLine 149 = .ok (.iconst 0, 1) := by decide +kernel
theorem dX7_doLine_150 : decode cX7_doLine 150 = .ok (.iaload, 1) := by decide +kernel
theorem dX7_doLine_151 : decode cX7_doLine 151 = .ok (.invokevirtual 74, 3) := by decide +kernel
theorem dX7_doLine_154 : decode cX7_doLine 154 = .ok (.iconst (-1), 1) := by decide +kernel
theorem dX7_doLine_155 : decode cX7_doLine 155 = .ok (.if_icmp .eq 7, 3) := by decide +kernel
theorem dX7_doLine_158 : decode cX7_doLine 158 = .ok (.iconst 1, 1) := by decide +kernel
theorem dX7_doLine_159 : decode cX7_doLine 159 = .ok (.goto 4, 3) := by decide +kernel
theorem dX7_doLine_162 : decode cX7_doLine 162 = .ok (.iconst 0, 1) := by decide +kernel
theorem dX7_doLine_163 : decode cX7_doLine 163 = .ok (.ireturn, 1) := by decide +kernel
theorem dX7_doLine_164 : decode cX7_doLine 164 = .ok (.aload_n 0, 1) := by decide +kernel
theorem dX7_doLine_165 : decode cX7_doLine 165 = .ok (.aload_n 2, 1) := by decide +kernel
theorem dX7_doLine_166 : decode cX7_doLine 166 = .ok (.iconst 0, 1) := by decide +kernel
theorem dX7_doLine_167 : decode cX7_doLine 167 = .ok (.iaload, 1) := by decide +kernel
theorem dX7_doLine_168 : decode cX7_doLine 168 = .ok (.invokevirtual 77, 3) := by decide +kernel
theorem dX7_doLine_171 : decode cX7_doLine 171 = .ok (.iconst (-1), 1) := by decide +kernel
theorem dX7_doLine_172 : decode cX7_doLine 172 = .ok (.if_icmp .eq 7, 3) := by decide +kernel
theorem dX7_doLine_175 : decode cX7_doLine 175 = .ok (.iconst 1, 1) := by decide +kernel
theorem dX7_doLine_176 : decode cX7_doLine 176 = .ok (.goto 4, 3) := by decide +kernel
theorem dX7_doLine_179 : decode cX7_doLine 179 = .ok (.iconst 0, 1) := by decide +kernel
theorem dX7_doLine_180 : decode cX7_doLine 180 = .ok (.ireturn, 1) := by decide +kernel
theorem dX7_doLine_181 : decode cX7_doLine 181 = .ok (.aload_n 0, 1) := by decide +kernel
theorem dX7_doLine_182 : decode cX7_doLine 182 = .ok (.invokevirtual 80, 3) := by decide +kernel
theorem dX7_doLine_185 : decode cX7_doLine 185 = .ok (.ireturn, 1) := by decide +kernel
theorem dX7_doLine_186 : decode cX7_doLine 186 = .ok (.aload_n 0, 1) := by decide +kernel
theorem dX7_doLine_187 : decode cX7_doLine 187 = .ok (.invokevirtual 83, 3) := by decide +kernel
theorem dX7_doLine_190 : decode cX7_doLine 190 = .ok (.iconst (-1), 1) := by decide +kernel
theorem dX7_doLine_191 : decode cX7_doLine 191 = .ok (.if_icmp .eq 7, 3) := by decide +kernel
theorem dX7_doLine_194 : decode cX7_doLine 194 = .ok (.iconst 1, 1) := by decide +kernel
theorem dX7_doLine_195 : decode cX7_doLine 195 = .ok (.goto 4, 3) := by decide +kernel
theorem dX7_doLine_198 : decode cX7_doLine 198 = .ok (.iconst 0, 1) := by decide +kernel
theorem dX7_doLine_199 : decode cX7_doLine 199 = .ok (.ireturn, 1) := by decide +kernel
set_option maxRecDepth 20000 in
theorem ggX7_order_X7_isForm : GoodIn wsX7_order wsX7_isForm := goodIn_r _ [5, 6, 7, 8, 4, 9, 10, 11, 12] (by decide +kernel) (by decide +kernel)
set_option maxRecDepth 20000 in
theorem gX7_order_X7_isForm : GoodIn wsX7_order (va_wsS RX7 87 yX7_isForm wsX7_isForm) := goodIn_app (goodIn_of _ (by decide +kernel)) ggX7_order_X7_isForm
set_option maxRecDepth 20000 in
theorem ggX7_order_X7_isWorthInt : GoodIn wsX7_order wsX7_isWorthInt := goodIn_r _ [15, 16] (by decide +kernel) (by decide +kernel)
set_option maxRecDepth 20000 in
theorem gX7_order_X7_isWorthInt : GoodIn wsX7_order (va_wsS RX7 91 yX7_isWorthInt wsX7_isWorthInt) := goodIn_app (goodIn_of _ (by decide +kernel)) ggX7_order_X7_isWorthInt
set_option maxRecDepth 20000 in
theorem ggX7_order_X2_comeIn_h : GoodIn wsX7_order [Cond.code yX2_comeIn cX2_comeIn 6 (some .int)] := goodIn_r _ [21] (by decide +kernel) (by decide +kernel)
set_option maxRecDepth 20000 in
theorem ggX7_order_X2_comeIn_1 : GoodIn wsX7_order wsX2_comeIn_r1 := goodIn_r _ [22, 23, 24, 25, 26, 27, 28, 29, 30, 31, 32, 33, 34, 35, 36, 37, 38, 39, 40, 41, 42, 43, 44, 45] (by decide +kernel) (by decide +kernel)
set_option maxRecDepth 20000 in
theorem ggX7_order_X2_comeIn_2 : GoodIn wsX7_order wsX2_comeIn_r2 := goodIn_r _ [46, 20, 47, 48, 49, 50, 51, 52, 53, 54, 55, 56, 57, 58, 59, 60, 61, 62, 4, 63, 64, 65, 66, 67] (by decide +kernel) (by decide +kernel)
set_option maxRecDepth 20000 in
theorem ggX7_order_X2_comeIn_3 : GoodIn wsX7_order wsX2_comeIn_r3 := goodIn_r _ [68, 69, 70, 71, 72, 73, 74, 75, 76, 77, 78, 79, 80, 81, 82, 83, 84, 85, 86, 87, 88, 89, 90, 91] (by decide +kernel) (by decide +kernel)
set_option maxRecDepth 20000 in
theorem ggX7_order_X2_comeIn_4 : GoodIn wsX7_order wsX2_comeIn_r4 := goodIn_r _ [92, 93, 94, 95, 96, 97, 98, 99, 100, 101, 102, 103, 104, 105, 106, 107, 108, 109, 110, 111, 112, 113, 114, 115] (by decide +kernel) (by decide +kernel)
set_option maxRecDepth 20000 in
theorem ggX7_order_X2_comeIn_5 : GoodIn wsX7_order wsX2_comeIn_r5 := goodIn_r _ [116, 117, 118, 119, 120, 121, 122, 123, 124, 125, 126, 127, 128, 129, 130, 131, 132, 133, 134, 135, 136, 137, 138, 139] (by decide +kernel) (by decide +kernel)
set_option maxRecDepth 20000 in
theorem ggX7_order_X2_comeIn_6 : GoodIn wsX7_order wsX2_comeIn_r6 := goodIn_r _ [140, 141, 142, 143, 144, 145, 146, 147, 148, 149, 150, 151, 152, 153, 154, 155, 156, 157, 158, 159, 160, 161, 162, 163] (by decide +kernel) (by decide +kernel)
set_option maxRecDepth 20000 in
theorem ggX7_order_X2_comeIn_7 : GoodIn wsX7_order wsX2_comeIn_r7 := goodIn_r _ [164, 165, 166, 167, 168, 169, 170, 171, 172, 173, 174, 175, 176, 177, 178, 179, 180, 181, 182, 183, 184, 185, 186, 187] (by decide +kernel) (by decide +kernel)
set_option maxRecDepth 20000 in
theorem ggX7_order_X2_comeIn_8 : GoodIn wsX7_order wsX2_comeIn_r8 := goodIn_r _ [188, 189] (by decide +kernel) (by decide +kernel)
set_option maxRecDepth 20000 in
theorem ggX7_order_X2_comeIn_9 : GoodIn wsX7_order wsX20 := goodIn_r _ [193, 194, 195, 196, 197, 198, 199, 200, 201, 202, 203, 204] (by decide +kernel) (by decide +kernel)
set_option maxRecDepth 20000 in
theorem ggX7_order_X2_comeIn_10 : GoodIn wsX7_order wsX40 := goodIn_r _ [205, 206, 207, 208, 209, 210] (by decide +kernel) (by decide +kernel)
set_option maxRecDepth 20000 in
theorem ggX7_order_X2_comeIn_11 : GoodIn wsX7_order wsX00 := goodIn_r _ [211, 212, 213, 214] (by decide +kernel) (by decide +kernel)
set_option maxRecDepth 20000 in
theorem ggX7_order_X2_comeIn_12 : GoodIn wsX7_order wsX50 := goodIn_r _ [215, 216, 217, 218, 219, 220, 221, 222] (by decide +kernel) (by decide +kernel)
set_option maxRecDepth 20000 in
theorem ggX7_order_X2_comeIn_13 : GoodIn wsX7_order wsX30 := goodIn_r _ [223, 224, 225, 226, 227, 228, 229] (by decide +kernel) (by decide +kernel)
theorem ggX7_order_X2_comeIn : GoodIn wsX7_order wsX2_comeIn := goodIn_app ggX7_order_X2_comeIn_h (goodIn_app (goodIn_app (goodIn_app (goodIn_app (goodIn_app (goodIn_app ggX7_order_X2_comeIn_1 (goodIn_app ggX7_order_X2_comeIn_2 (goodIn_app ggX7_order_X2_comeIn_3 (goodIn_app ggX7_order_X2_comeIn_4 (goodIn_app ggX7_order_X2_comeIn_5 (goodIn_app ggX7_order_X2_comeIn_6 (goodIn_app ggX7_order_X2_comeIn_7 ggX7_order_X2_comeIn_8))))))) ggX7_order_X2_comeIn_9) ggX7_order_X2_comeIn_10) ggX7_order_X2_comeIn_11) ggX7_order_X2_comeIn_12) ggX7_order_X2_comeIn_13)
set_option maxRecDepth 20000 in
theorem gX7_order_X2_comeIn : GoodIn wsX7_order (wsV RX7 62 RX2 yX2_comeIn wsX2_comeIn) := goodIn_app (goodIn_of _ (by decide +kernel)) ggX7_order_X2_comeIn
theorem dX7_order_0 : decode cX7_order 0 = .ok (.iload_n 1, 1) := by decide +kernel
theorem dX7_order_1 : decode cX7_order 1 = .ok (.iload_n 2, 1) := by decide +kernel
theorem dX7_order_2 : decode cX7_order 2 = .ok (.iload_n 3, 1) := by decide +kernel
theorem dX7_order_3 : decode cX7_order 3 = .ok (.iload 4, 2) := by decide +kernel
theorem dX7_order_5 : decode cX7_order 5 = .ok (.iload 5, 2) := by decide +kernel
theorem dX7_order_7 : decode cX7_order 7 = .ok (.invokestatic 87, 3) := by decide +kernel
theorem dX7_order_10 : decode cX7_order 10 = .ok (.ifCond .ne 5, 3) := by decide +kernel
theorem dX7_order_13 : decode cX7_order 13 = .ok (.iconst (-1), 1) := by decide +kernel
theorem dX7_order_14 : decode cX7_order 14 = .ok (.ireturn, 1) := by decide +kernel
theorem dX7_order_15 : decode cX7_order 15 = .ok (.iload_n 3, 1) := by decide +kernel
theorem dX7_order_16 : decode cX7_order 16 = .ok (.iload 4, 2) := by decide +kernel
theorem dX7_order_18 : decode cX7_order 18 = .ok (.invokestatic 91, 3) := by decide +kernel
theorem dX7_order_21 : decode cX7_order 21 = .ok (.ifCond .ne 6, 3) := by decide +kernel
theorem dX7_order_24 : decode cX7_order 24 = .ok (.bipush (-2), 2) := by decide +kernel
theorem dX7_order_26 : decode cX7_order 26 = .ok (.ireturn, 1) := by decide +kernel
theorem dX7_order_27 : decode cX7_order 27 = .ok (.aload_n 0, 1) := by decide +kernel
theorem dX7_order_28 : decode cX7_order 28 = .ok (.getfield 10, 3) := by decide +kernel
theorem dX7_order_31 : decode cX7_order 31 = .ok (.iload_n 1, 1) := by decide +kernel
theorem dX7_order_32 : decode cX7_order 32 = .ok (.iload_n 2, 1) := by decide +kernel
theorem dX7_order_33 : decode cX7_order 33 = .ok (.iload_n 3, 1) := by decide +kernel
theorem dX7_order_34 : decode cX7_order 34 = .ok (.iload 4, 2) := by decide +kernel
theorem dX7_order_36 : decode cX7_order 36 = .ok (.iload 5, 2) := by decide +kernel
theorem dX7_order_38 : decode cX7_order 38 = .ok (.invokevirtual 62, 3) := by decide +kernel
theorem dX7_order_41 : decode cX7_order 41 = .ok (.ireturn, 1) := by decide +kernel
set_option maxRecDepth 20000 in
theorem ggX7_isForm_X7_isTrader : GoodIn wsX7_isForm wsX7_isTrader := goodIn_r _ [5] (by decide +kernel) (by decide +kernel)
set_option maxRecDepth 20000 in
theorem gX7_isForm_X7_isTrader : GoodIn wsX7_isForm (va_wsS RX7 95 yX7_isTrader wsX7_isTrader) := goodIn_app (goodIn_of _ (by decide +kernel)) ggX7_isForm_X7_isTrader
set_option maxRecDepth 20000 in
theorem ggX7_isForm_X7_isSide : GoodIn wsX7_isForm wsX7_isSide := goodIn_r _ [8] (by decide +kernel) (by decide +kernel)
set_option maxRecDepth 20000 in
theorem gX7_isForm_X7_isSide : GoodIn wsX7_isForm (va_wsS RX7 99 yX7_isSide wsX7_isSide) := goodIn_app (goodIn_of _ (by decide +kernel)) ggX7_isForm_X7_isSide
theorem dX7_isForm_0 : decode cX7_isForm 0 = .ok (.iload_n 0, 1) := by decide +kernel
theorem dX7_isForm_1 : decode cX7_isForm 1 = .ok (.invokestatic 95, 3) := by decide +kernel
theorem dX7_isForm_4 : decode cX7_isForm 4 = .ok (.ifCond .eq 48, 3) := by decide +kernel
theorem dX7_isForm_7 : decode cX7_isForm 7 = .ok (.iload_n 1, 1) := by decide +kernel
theorem dX7_isForm_8 : decode cX7_isForm 8 = .ok (.invokestatic 99, 3) := by decide +kernel
theorem dX7_isForm_11 : decode cX7_isForm 11 = .ok (.ifCond .eq 41, 3) := by decide +kernel
theorem dX7_isForm_14 : decode cX7_isForm 14 = .ok (.iload_n 2, 1) := by decide +kernel
theorem dX7_isForm_15 : decode cX7_isForm 15 = .ok (.iconst 1, 1) := by decide +kernel
theorem dX7_isForm_16 : decode cX7_isForm 16 = .ok (.if_icmp .lt 36, 3) := by decide +kernel
theorem dX7_isForm_19 : decode cX7_isForm 19 = .ok (.iload_n 2, 1) := by decide +kernel
theorem dX7_isForm_20 : decode cX7_isForm 20 = .ok (.ldc 102, 2) := by decide +kernel
theorem dX7_isForm_22 : decode cX7_isForm 22 = .ok (.if_icmp .gt 30, 3) := by decide +kernel
theorem dX7_isForm_25 : decode cX7_isForm 25 = .ok (.iload_n 3, 1) := by decide +kernel
theorem dX7_isForm_26 : decode cX7_isForm 26 = .ok (.iconst 1, 1) := by decide +kernel
theorem dX7_isForm_27 : decode cX7_isForm 27 = .ok (.if_icmp .lt 25, 3) := by decide +kernel
theorem dX7_isForm_30 : decode cX7_isForm 30 = .ok (.iload_n 3, 1) := by decide +kernel
theorem dX7_isForm_31 : decode cX7_isForm 31 = .ok (.sipush 1000, 3) := by decide +kernel
theorem dX7_isForm_34 : decode cX7_isForm 34 = .ok (.if_icmp .gt 18, 3) := by decide +kernel
theorem dX7_isForm_37 : decode cX7_isForm 37 = .ok (.iload 4, 2) := by decide +kernel
theorem dX7_isForm_39 : decode cX7_isForm 39 = .ok (.ifCond .lt 13, 3) := by decide +kernel
theorem dX7_isForm_42 : decode cX7_isForm 42 = .ok (.iload 4, 2) := by decide +kernel
theorem dX7_isForm_44 : decode cX7_isForm 44 = .ok (.iconst 4, 1) := by decide +kernel
theorem dX7_isForm_45 : decode cX7_isForm 45 = .ok (.if_icmp .ge 7, 3) := by decide +kernel
theorem dX7_isForm_48 : decode cX7_isForm 48 = .ok (.iconst 1, 1) := by decide +kernel
theorem dX7_isForm_49 : decode cX7_isForm 49 = .ok (.goto 4, 3) := by decide +kernel
theorem dX7_isForm_52 : decode cX7_isForm 52 = .ok (.iconst 0, 1) := by decide +kernel
theorem dX7_isForm_53 : decode cX7_isForm 53 = .ok (.ireturn, 1) := by decide +kernel
theorem dX7_isTrader_0 : decode cX7_isTrader 0 = .ok (.iload_n 0, 1) := by decide +kernel
theorem dX7_isTrader_1 : decode cX7_isTrader 1 = .ok (.ifCond .lt 13, 3) := by decide +kernel
theorem dX7_isTrader_4 : decode cX7_isTrader 4 = .ok (.iload_n 0, 1) := by decide +kernel
theorem dX7_isTrader_5 : decode cX7_isTrader 5 = .ok (.bipush 10, 2) := by decide +kernel
theorem dX7_isTrader_7 : decode cX7_isTrader 7 = .ok (.if_icmp .ge 7, 3) := by decide +kernel
theorem dX7_isTrader_10 : decode cX7_isTrader 10 = .ok (.iconst 1, 1) := by decide +kernel
theorem dX7_isTrader_11 : decode cX7_isTrader 11 = .ok (.goto 4, 3) := by decide +kernel
theorem dX7_isTrader_14 : decode cX7_isTrader 14 = .ok (.iconst 0, 1) := by decide +kernel
theorem dX7_isTrader_15 : decode cX7_isTrader 15 = .ok (.ireturn, 1) := by decide +kernel
theorem dX7_isSide_0 : decode cX7_isSide 0 = .ok (.iload_n 0, 1) := by decide +kernel
theorem dX7_isSide_1 : decode cX7_isSide 1 = .ok (.ifCond .eq 8, 3) := by decide +kernel
theorem dX7_isSide_4 : decode cX7_isSide 4 = .ok (.iload_n 0, 1) := by decide +kernel
theorem dX7_isSide_5 : decode cX7_isSide 5 = .ok (.iconst 1, 1) := by decide +kernel
theorem dX7_isSide_6 : decode cX7_isSide 6 = .ok (.if_icmp .ne 7, 3) := by decide +kernel
theorem dX7_isSide_9 : decode cX7_isSide 9 = .ok (.iconst 1, 1) := by decide +kernel
theorem dX7_isSide_10 : decode cX7_isSide 10 = .ok (.goto 4, 3) := by decide +kernel
theorem dX7_isSide_13 : decode cX7_isSide 13 = .ok (.iconst 0, 1) := by decide +kernel
theorem dX7_isSide_14 : decode cX7_isSide 14 = .ok (.ireturn, 1) := by decide +kernel
theorem dX7_isWorthInt_0 : decode cX7_isWorthInt 0 = .ok (.iload_n 0, 1) := by decide +kernel
theorem dX7_isWorthInt_1 : decode cX7_isWorthInt 1 = .ok (.i2l, 1) := by decide +kernel
theorem dX7_isWorthInt_2 : decode cX7_isWorthInt 2 = .ok (.iload_n 1, 1) := by decide +kernel
theorem dX7_isWorthInt_3 : decode cX7_isWorthInt 3 = .ok (.i2l, 1) := by decide +kernel
theorem dX7_isWorthInt_4 : decode cX7_isWorthInt 4 = .ok (.lmul, 1) := by decide +kernel
theorem dX7_isWorthInt_5 : decode cX7_isWorthInt 5 = .ok (.ldc2_w 103, 3) := by decide +kernel
theorem dX7_isWorthInt_8 : decode cX7_isWorthInt 8 = .ok (.lcmp, 1) := by decide +kernel
theorem dX7_isWorthInt_9 : decode cX7_isWorthInt 9 = .ok (.ifCond .gt 7, 3) := by decide +kernel
theorem dX7_isWorthInt_12 : decode cX7_isWorthInt 12 = .ok (.iconst 1, 1) := by decide +kernel
theorem dX7_isWorthInt_13 : decode cX7_isWorthInt 13 = .ok (.goto 4, 3) := by decide +kernel
theorem dX7_isWorthInt_16 : decode cX7_isWorthInt 16 = .ok (.iconst 0, 1) := by decide +kernel
theorem dX7_isWorthInt_17 : decode cX7_isWorthInt 17 = .ok (.ireturn, 1) := by decide +kernel
set_option maxRecDepth 20000 in
theorem ggX7_off_X0_find : GoodIn wsX7_off wsX0_find := goodIn_r _ [8, 9, 10, 11, 45, 46, 47, 48, 39, 40, 41, 42, 43, 44] (by decide +kernel) (by decide +kernel)
set_option maxRecDepth 20000 in
theorem gX7_off_X0_find : GoodIn wsX7_off (wsV RX7 109 RX0 yX0_find wsX0_find) := goodIn_app (goodIn_of _ (by decide +kernel)) ggX7_off_X0_find
set_option maxRecDepth 20000 in
theorem ggX7_off_X0_sweep : GoodIn wsX7_off wsX0_sweep := goodIn_r _ [15, 9, 10, 16, 17, 18, 19, 7, 20, 21, 22, 11, 23, 45, 46, 47, 48, 39, 40, 41, 42, 43, 44] (by decide +kernel) (by decide +kernel)
set_option maxRecDepth 20000 in
theorem gX7_off_X0_sweep : GoodIn wsX7_off (wsV RX7 120 RX0 yX0_sweep wsX0_sweep) := goodIn_app (goodIn_of _ (by decide +kernel)) ggX7_off_X0_sweep
theorem dX7_off_0 : decode cX7_off 0 = .ok (.aload_n 0, 1) := by decide +kernel
theorem dX7_off_1 : decode cX7_off 1 = .ok (.getfield 10, 3) := by decide +kernel
theorem dX7_off_4 : decode cX7_off 4 = .ok (.getfield 105, 3) := by decide +kernel
theorem dX7_off_7 : decode cX7_off 7 = .ok (.iload_n 1, 1) := by decide +kernel
theorem dX7_off_8 : decode cX7_off 8 = .ok (.invokevirtual 109, 3) := by decide +kernel
theorem dX7_off_11 : decode cX7_off 11 = .ok (.astore_n 2, 1) := by decide +kernel
theorem dX7_off_12 : decode cX7_off 12 = .ok (.aload_n 2, 1) := by decide +kernel
theorem dX7_off_13 : decode cX7_off 13 = .ok (.ifnonnull 5, 3) := by decide +kernel
theorem dX7_off_16 : decode cX7_off 16 = .ok (.iconst (-1), 1) := by decide +kernel
theorem dX7_off_17 : decode cX7_off 17 = .ok (.ireturn, 1) := by decide +kernel
theorem dX7_off_18 : decode cX7_off 18 = .ok (.aload_n 2, 1) := by decide +kernel
theorem dX7_off_19 : decode cX7_off 19 = .ok (.getfield 115, 3) := by decide +kernel
theorem dX7_off_22 : decode cX7_off 22 = .ok (.istore_n 3, 1) := by decide +kernel
theorem dX7_off_23 : decode cX7_off 23 = .ok (.aload_n 2, 1) := by decide +kernel
theorem dX7_off_24 : decode cX7_off 24 = .ok (.iconst 0, 1) := by decide +kernel
theorem dX7_off_25 : decode cX7_off 25 = .ok (.putfield 115, 3) := by decide +kernel
theorem dX7_off_28 : decode cX7_off 28 = .ok (.aload_n 0, 1) := by decide +kernel
theorem dX7_off_29 : decode cX7_off 29 = .ok (.getfield 10, 3) := by decide +kernel
theorem dX7_off_32 : decode cX7_off 32 = .ok (.getfield 105, 3) := by decide +kernel
theorem dX7_off_35 : decode cX7_off 35 = .ok (.invokevirtual 120, 3) := by decide +kernel
theorem dX7_off_38 : decode cX7_off 38 = .ok (.iload_n 3, 1) := by decide +kernel
theorem dX7_off_39 : decode cX7_off 39 = .ok (.ireturn, 1) := by decide +kernel
set_option maxRecDepth 20000 in
theorem ggX7_cut_X0_find : GoodIn wsX7_cut wsX0_find := goodIn_r _ [8, 9, 10, 11, 40, 41, 42, 43, 34, 35, 36, 37, 38, 39] (by decide +kernel) (by decide +kernel)
set_option maxRecDepth 20000 in
theorem gX7_cut_X0_find : GoodIn wsX7_cut (wsV RX7 109 RX0 yX0_find wsX0_find) := goodIn_app (goodIn_of _ (by decide +kernel)) ggX7_cut_X0_find
set_option maxRecDepth 20000 in
theorem ggX7_cut_X0_lapse : GoodIn wsX7_cut wsX0_lapse := goodIn_r _ [15, 16, 17, 11, 18, 40, 41, 42, 43, 34, 35, 36, 37, 38, 39] (by decide +kernel) (by decide +kernel)
set_option maxRecDepth 20000 in
theorem gX7_cut_X0_lapse : GoodIn wsX7_cut (wsV RX7 123 RX0 yX0_lapse wsX0_lapse) := goodIn_app (goodIn_of _ (by decide +kernel)) ggX7_cut_X0_lapse
theorem dX7_cut_0 : decode cX7_cut 0 = .ok (.aload_n 0, 1) := by decide +kernel
theorem dX7_cut_1 : decode cX7_cut 1 = .ok (.getfield 10, 3) := by decide +kernel
theorem dX7_cut_4 : decode cX7_cut 4 = .ok (.getfield 105, 3) := by decide +kernel
theorem dX7_cut_7 : decode cX7_cut 7 = .ok (.iload_n 1, 1) := by decide +kernel
theorem dX7_cut_8 : decode cX7_cut 8 = .ok (.invokevirtual 109, 3) := by decide +kernel
theorem dX7_cut_11 : decode cX7_cut 11 = .ok (.astore_n 3, 1) := by decide +kernel
theorem dX7_cut_12 : decode cX7_cut 12 = .ok (.aload_n 3, 1) := by decide +kernel
theorem dX7_cut_13 : decode cX7_cut 13 = .ok (.ifnull 16, 3) := by decide +kernel
theorem dX7_cut_16 : decode cX7_cut 16 = .ok (.iload_n 2, 1) := by decide +kernel
theorem dX7_cut_17 : decode cX7_cut 17 = .ok (.iconst 1, 1) := by decide +kernel
theorem dX7_cut_18 : decode cX7_cut 18 = .ok (.if_icmp .lt 11, 3) := by decide +kernel
theorem dX7_cut_21 : decode cX7_cut 21 = .ok (.iload_n 2, 1) := by decide +kernel
theorem dX7_cut_22 : decode cX7_cut 22 = .ok (.aload_n 3, 1) := by decide +kernel
theorem dX7_cut_23 : decode cX7_cut 23 = .ok (.getfield 115, 3) := by decide +kernel
theorem dX7_cut_26 : decode cX7_cut 26 = .ok (.if_icmp .lt 5, 3) := by decide +kernel
theorem dX7_cut_29 : decode cX7_cut 29 = .ok (.iconst (-1), 1) := by decide +kernel
theorem dX7_cut_30 : decode cX7_cut 30 = .ok (.ireturn, 1) := by decide +kernel
theorem dX7_cut_31 : decode cX7_cut 31 = .ok (.aload_n 3, 1) := by decide +kernel
theorem dX7_cut_32 : decode cX7_cut 32 = .ok (.getfield 115, 3) := by decide +kernel
theorem dX7_cut_35 : decode cX7_cut 35 = .ok (.istore 4, 2) := by decide +kernel
theorem dX7_cut_37 : decode cX7_cut 37 = .ok (.aload_n 3, 1) := by decide +kernel
theorem dX7_cut_38 : decode cX7_cut 38 = .ok (.iload_n 2, 1) := by decide +kernel
theorem dX7_cut_39 : decode cX7_cut 39 = .ok (.putfield 115, 3) := by decide +kernel
theorem dX7_cut_42 : decode cX7_cut 42 = .ok (.aload_n 0, 1) := by decide +kernel
theorem dX7_cut_43 : decode cX7_cut 43 = .ok (.getfield 10, 3) := by decide +kernel
theorem dX7_cut_46 : decode cX7_cut 46 = .ok (.getfield 105, 3) := by decide +kernel
theorem dX7_cut_49 : decode cX7_cut 49 = .ok (.aload_n 3, 1) := by decide +kernel
theorem dX7_cut_50 : decode cX7_cut 50 = .ok (.invokevirtual 123, 3) := by decide +kernel
theorem dX7_cut_53 : decode cX7_cut 53 = .ok (.iload 4, 2) := by decide +kernel
theorem dX7_cut_55 : decode cX7_cut 55 = .ok (.ireturn, 1) := by decide +kernel
theorem dX7_grant_0 : decode cX7_grant 0 = .ok (.iload_n 1, 1) := by decide +kernel
theorem dX7_grant_1 : decode cX7_grant 1 = .ok (.ifCond .lt 10, 3) := by decide +kernel
theorem dX7_grant_4 : decode cX7_grant 4 = .ok (.iload_n 1, 1) := by decide +kernel
theorem dX7_grant_5 : decode cX7_grant 5 = .ok (.sipush 1000, 3) := by decide +kernel
theorem dX7_grant_8 : decode cX7_grant 8 = .ok (.if_icmp .le 5, 3) := by decide +kernel
theorem dX7_grant_11 : decode cX7_grant 11 = .ok (.iconst (-1), 1) := by decide +kernel
theorem dX7_grant_12 : decode cX7_grant 12 = .ok (.ireturn, 1) := by decide +kernel
theorem dX7_grant_13 : decode cX7_grant 13 = .ok (.aload_n 0, 1) := by decide +kernel
theorem dX7_grant_14 : decode cX7_grant 14 = .ok (.getfield 10, 3) := by decide +kernel
theorem dX7_grant_17 : decode cX7_grant 17 = .ok (.getfield 127, 3) := by decide +kernel
theorem dX7_grant_20 : decode cX7_grant 20 = .ok (.istore_n 2, 1) := by decide +kernel
theorem dX7_grant_21 : decode cX7_grant 21 = .ok (.aload_n 0, 1) := by decide +kernel
theorem dX7_grant_22 : decode cX7_grant 22 = .ok (.getfield 10, 3) := by decide +kernel
theorem dX7_grant_25 : decode cX7_grant 25 = .ok (.iload_n 1, 1) := by decide +kernel
theorem dX7_grant_26 : decode cX7_grant 26 = .ok (.putfield 127, 3) := by decide +kernel
theorem dX7_grant_29 : decode cX7_grant 29 = .ok (.iload_n 2, 1) := by decide +kernel
theorem dX7_grant_30 : decode cX7_grant 30 = .ok (.ireturn, 1) := by decide +kernel
theorem dX7_least_0 : decode cX7_least 0 = .ok (.iload_n 1, 1) := by decide +kernel
theorem dX7_least_1 : decode cX7_least 1 = .ok (.iconst 1, 1) := by decide +kernel
theorem dX7_least_2 : decode cX7_least 2 = .ok (.if_icmp .lt 9, 3) := by decide +kernel
theorem dX7_least_5 : decode cX7_least 5 = .ok (.iload_n 1, 1) := by decide +kernel
theorem dX7_least_6 : decode cX7_least 6 = .ok (.bipush 50, 2) := by decide +kernel
theorem dX7_least_8 : decode cX7_least 8 = .ok (.if_icmp .le 5, 3) := by decide +kernel
theorem dX7_least_11 : decode cX7_least 11 = .ok (.iconst (-1), 1) := by decide +kernel
theorem dX7_least_12 : decode cX7_least 12 = .ok (.ireturn, 1) := by decide +kernel
theorem dX7_least_13 : decode cX7_least 13 = .ok (.aload_n 0, 1) := by decide +kernel
theorem dX7_least_14 : decode cX7_least 14 = .ok (.getfield 10, 3) := by decide +kernel
theorem dX7_least_17 : decode cX7_least 17 = .ok (.getfield 129, 3) := by decide +kernel
theorem dX7_least_20 : decode cX7_least 20 = .ok (.istore_n 2, 1) := by decide +kernel
theorem dX7_least_21 : decode cX7_least 21 = .ok (.aload_n 0, 1) := by decide +kernel
theorem dX7_least_22 : decode cX7_least 22 = .ok (.getfield 10, 3) := by decide +kernel
theorem dX7_least_25 : decode cX7_least 25 = .ok (.iload_n 1, 1) := by decide +kernel
theorem dX7_least_26 : decode cX7_least 26 = .ok (.putfield 129, 3) := by decide +kernel
theorem dX7_least_29 : decode cX7_least 29 = .ok (.iload_n 2, 1) := by decide +kernel
theorem dX7_least_30 : decode cX7_least 30 = .ok (.ireturn, 1) := by decide +kernel
set_option maxRecDepth 20000 in
theorem ggX7_call_X0_lapseAll : GoodIn wsX7_call wsX0_lapseAll := goodIn_r _ [8, 9, 10, 26, 27, 28, 29] (by decide +kernel) (by decide +kernel)
set_option maxRecDepth 20000 in
theorem gX7_call_X0_lapseAll : GoodIn wsX7_call (wsV RX7 134 RX0 yX0_lapseAll wsX0_lapseAll) := goodIn_app (goodIn_of _ (by decide +kernel)) ggX7_call_X0_lapseAll
theorem dX7_call_0 : decode cX7_call 0 = .ok (.aload_n 0, 1) := by decide +kernel
theorem dX7_call_1 : decode cX7_call 1 = .ok (.getfield 10, 3) := by decide +kernel
theorem dX7_call_4 : decode cX7_call 4 = .ok (.getfield 131, 3) := by decide +kernel
theorem dX7_call_7 : decode cX7_call 7 = .ok (.ifCond .eq 5, 3) := by decide +kernel
theorem dX7_call_10 : decode cX7_call 10 = .ok (.iconst 0, 1) := by decide +kernel
theorem dX7_call_11 : decode cX7_call 11 = .ok (.ireturn, 1) := by decide +kernel
theorem dX7_call_12 : decode cX7_call 12 = .ok (.aload_n 0, 1) := by decide +kernel
theorem dX7_call_13 : decode cX7_call 13 = .ok (.getfield 10, 3) := by decide +kernel
theorem dX7_call_16 : decode cX7_call 16 = .ok (.iconst 1, 1) := by decide +kernel
theorem dX7_call_17 : decode cX7_call 17 = .ok (.putfield 131, 3) := by decide +kernel
theorem dX7_call_20 : decode cX7_call 20 = .ok (.aload_n 0, 1) := by decide +kernel
theorem dX7_call_21 : decode cX7_call 21 = .ok (.getfield 10, 3) := by decide +kernel
theorem dX7_call_24 : decode cX7_call 24 = .ok (.getfield 105, 3) := by decide +kernel
theorem dX7_call_27 : decode cX7_call 27 = .ok (.invokevirtual 134, 3) := by decide +kernel
theorem dX7_call_30 : decode cX7_call 30 = .ok (.iconst 1, 1) := by decide +kernel
theorem dX7_call_31 : decode cX7_call 31 = .ok (.ireturn, 1) := by decide +kernel
set_option maxRecDepth 20000 in
theorem ggX7_open_X2_changeOver_h : GoodIn wsX7_open [Cond.code yX2_changeOver cX2_changeOver 1 (some .int)] := goodIn_r _ [7] (by decide +kernel) (by decide +kernel)
set_option maxRecDepth 20000 in
theorem ggX7_open_X2_changeOver_1 : GoodIn wsX7_open wsX2_changeOver_r1 := goodIn_r _ [8, 9, 10, 11, 12, 13, 14, 15, 16, 17, 18, 19, 20, 21, 22, 23, 24, 25, 26, 27, 28, 29, 30, 31] (by decide +kernel) (by decide +kernel)
set_option maxRecDepth 20000 in
theorem ggX7_open_X2_changeOver_2 : GoodIn wsX7_open wsX2_changeOver_r2 := goodIn_r _ [32, 33, 34, 35, 36, 37, 38, 39, 40, 41, 42, 43, 44, 45, 46, 6, 47, 48, 49, 50, 51, 52, 53, 54] (by decide +kernel) (by decide +kernel)
set_option maxRecDepth 20000 in
theorem ggX7_open_X2_changeOver_3 : GoodIn wsX7_open wsX2_changeOver_r3 := goodIn_r _ [55, 56, 57, 58, 59, 60, 61, 62, 63, 64, 65, 66, 67, 68, 69, 70, 71, 72, 73, 74, 75, 76, 77, 78] (by decide +kernel) (by decide +kernel)
set_option maxRecDepth 20000 in
theorem ggX7_open_X2_changeOver_4 : GoodIn wsX7_open wsX2_changeOver_r4 := goodIn_r _ [79, 80, 81, 82, 83, 84, 85, 86, 87, 88, 89, 90, 91, 92, 93, 94, 95, 96, 97, 98, 99, 100, 101, 102] (by decide +kernel) (by decide +kernel)
set_option maxRecDepth 20000 in
theorem ggX7_open_X2_changeOver_5 : GoodIn wsX7_open wsX2_changeOver_r5 := goodIn_r _ [103, 104, 105, 106, 107, 108, 109, 110, 111, 112, 113, 114, 115, 116, 117, 118, 119, 120, 121, 122, 123, 124, 125, 126] (by decide +kernel) (by decide +kernel)
set_option maxRecDepth 20000 in
theorem ggX7_open_X2_changeOver_6 : GoodIn wsX7_open wsX2_changeOver_r6 := goodIn_r _ [127, 128, 129, 130, 131, 132, 133, 134, 135, 136, 137, 138, 139, 140, 141, 142, 143, 144, 145, 146, 147, 148, 149, 150] (by decide +kernel) (by decide +kernel)
set_option maxRecDepth 20000 in
theorem ggX7_open_X2_changeOver_7 : GoodIn wsX7_open wsX2_changeOver_r7 := goodIn_r _ [151] (by decide +kernel) (by decide +kernel)
set_option maxRecDepth 20000 in
theorem ggX7_open_X2_changeOver_8 : GoodIn wsX7_open wsX20 := goodIn_r _ [155, 156, 157, 158, 159, 160, 161, 162, 163, 164, 165, 166] (by decide +kernel) (by decide +kernel)
set_option maxRecDepth 20000 in
theorem ggX7_open_X2_changeOver_9 : GoodIn wsX7_open wsX30 := goodIn_r _ [167, 168, 169, 170, 171, 172, 173] (by decide +kernel) (by decide +kernel)
set_option maxRecDepth 20000 in
theorem ggX7_open_X2_changeOver_10 : GoodIn wsX7_open wsX10 := goodIn_r _ [174, 175, 176] (by decide +kernel) (by decide +kernel)
set_option maxRecDepth 20000 in
theorem ggX7_open_X2_changeOver_11 : GoodIn wsX7_open wsX00 := goodIn_r _ [177, 178, 179, 180] (by decide +kernel) (by decide +kernel)
set_option maxRecDepth 20000 in
theorem ggX7_open_X2_changeOver_12 : GoodIn wsX7_open wsX40 := goodIn_r _ [181, 182, 183, 184, 185, 186] (by decide +kernel) (by decide +kernel)
set_option maxRecDepth 20000 in
theorem ggX7_open_X2_changeOver_13 : GoodIn wsX7_open wsX50 := goodIn_r _ [187, 188, 189, 190, 191, 192, 193, 194] (by decide +kernel) (by decide +kernel)
theorem ggX7_open_X2_changeOver : GoodIn wsX7_open wsX2_changeOver := goodIn_app ggX7_open_X2_changeOver_h (goodIn_app (goodIn_app (goodIn_app (goodIn_app (goodIn_app (goodIn_app (goodIn_app ggX7_open_X2_changeOver_1 (goodIn_app ggX7_open_X2_changeOver_2 (goodIn_app ggX7_open_X2_changeOver_3 (goodIn_app ggX7_open_X2_changeOver_4 (goodIn_app ggX7_open_X2_changeOver_5 (goodIn_app ggX7_open_X2_changeOver_6 ggX7_open_X2_changeOver_7)))))) ggX7_open_X2_changeOver_8) ggX7_open_X2_changeOver_9) ggX7_open_X2_changeOver_10) ggX7_open_X2_changeOver_11) ggX7_open_X2_changeOver_12) ggX7_open_X2_changeOver_13)
set_option maxRecDepth 20000 in
theorem gX7_open_X2_changeOver : GoodIn wsX7_open (wsV RX7 137 RX2 yX2_changeOver wsX2_changeOver) := goodIn_app (goodIn_of _ (by decide +kernel)) ggX7_open_X2_changeOver
theorem dX7_open_0 : decode cX7_open 0 = .ok (.aload_n 0, 1) := by decide +kernel
theorem dX7_open_1 : decode cX7_open 1 = .ok (.getfield 10, 3) := by decide +kernel
theorem dX7_open_4 : decode cX7_open 4 = .ok (.getfield 131, 3) := by decide +kernel
theorem dX7_open_7 : decode cX7_open 7 = .ok (.ifCond .eq 13, 3) := by decide +kernel
theorem dX7_open_10 : decode cX7_open 10 = .ok (.aload_n 0, 1) := by decide +kernel
theorem dX7_open_11 : decode cX7_open 11 = .ok (.getfield 10, 3) := by decide +kernel
theorem dX7_open_14 : decode cX7_open 14 = .ok (.invokevirtual 137, 3) := by decide +kernel
theorem dX7_open_17 : decode cX7_open 17 = .ok (.goto 4, 3) := by decide +kernel
theorem dX7_open_20 : decode cX7_open 20 = .ok (.iconst (-1), 1) := by decide +kernel
theorem dX7_open_21 : decode cX7_open 21 = .ok (.ireturn, 1) := by decide +kernel
set_option maxRecDepth 20000 in
theorem ggX7_of_X0_find : GoodIn wsX7_of wsX0_find := goodIn_r _ [14, 15, 16, 17, 46, 47, 48, 49, 40, 41, 42, 43, 44, 45] (by decide +kernel) (by decide +kernel)
set_option maxRecDepth 20000 in
theorem gX7_of_X0_find : GoodIn wsX7_of (wsV RX7 109 RX0 yX0_find wsX0_find) := goodIn_app (goodIn_of _ (by decide +kernel)) ggX7_of_X0_find
set_option maxRecDepth 20000 in
theorem ggX7_of_X0_grantOf : GoodIn wsX7_of wsX0_grantOf := goodIn_r _ [21, 22, 23, 17, 24, 46, 47, 48, 49, 40, 41, 42, 43, 44, 45] (by decide +kernel) (by decide +kernel)
set_option maxRecDepth 20000 in
theorem gX7_of_X0_grantOf : GoodIn wsX7_of (wsV RX7 159 RX0 yX0_grantOf wsX0_grantOf) := goodIn_app (goodIn_of _ (by decide +kernel)) ggX7_of_X0_grantOf
theorem dX7_of_0 : decode cX7_of 0 = .ok (.aload_n 0, 1) := by decide +kernel
theorem dX7_of_1 : decode cX7_of 1 = .ok (.getfield 10, 3) := by decide +kernel
theorem dX7_of_4 : decode cX7_of 4 = .ok (.getfield 105, 3) := by decide +kernel
theorem dX7_of_7 : decode cX7_of 7 = .ok (.iload_n 1, 1) := by decide +kernel
theorem dX7_of_8 : decode cX7_of 8 = .ok (.invokevirtual 109, 3) := by decide +kernel
theorem dX7_of_11 : decode cX7_of 11 = .ok (.astore_n 3, 1) := by decide +kernel
theorem dX7_of_12 : decode cX7_of 12 = .ok (.aload_n 3, 1) := by decide +kernel
theorem dX7_of_13 : decode cX7_of 13 = .ok (.ifnonnull 13, 3) := by decide +kernel
theorem dX7_of_16 : decode cX7_of 16 = .ok (.new 140, 3) := by decide +kernel
theorem dX7_of_19 : decode cX7_of 19 = .ok (.dup, 1) := by decide +kernel
theorem dX7_of_20 : decode cX7_of 20 = .ok (.ldc 142, 2) := by decide +kernel
theorem dX7_of_22 : decode cX7_of 22 = .ok (.invokespecial 144, 3) := by decide +kernel
theorem dX7_of_25 : decode cX7_of 25 = .ok (.athrow, 1) := by decide +kernel
theorem dX7_of_26 : decode cX7_of 26 = .ok (.iload_n 2, 1) := by decide +kernel
theorem dX7_of_27 : decode cX7_of 27 = .ok (.tableswitch 74 0 5 #[37, 42, 47, 52, 57, 62], 37) := by decide +kernel
theorem dX7_of_64 : decode cX7_of 64 = .ok (.aload_n 3, 1) := by decide +kernel
theorem dX7_of_65 : decode cX7_of 65 = .ok (.getfield 147, 3) := by decide +kernel
theorem dX7_of_68 : decode cX7_of 68 = .ok (.ireturn, 1) := by decide +kernel
theorem dX7_of_69 : decode cX7_of 69 = .ok (.aload_n 3, 1) := by decide +kernel
theorem dX7_of_70 : decode cX7_of 70 = .ok (.getfield 150, 3) := by decide +kernel
theorem dX7_of_73 : decode cX7_of 73 = .ok (.ireturn, 1) := by decide +kernel
theorem dX7_of_74 : decode cX7_of 74 = .ok (.aload_n 3, 1) := by decide +kernel
theorem dX7_of_75 : decode cX7_of 75 = .ok (.getfield 153, 3) := by decide +kernel
theorem dX7_of_78 : decode cX7_of 78 = .ok (.ireturn, 1) := by decide +kernel
theorem dX7_of_79 : decode cX7_of 79 = .ok (.aload_n 3, 1) := by decide +kernel
theorem dX7_of_80 : decode cX7_of 80 = .ok (.getfield 115, 3) := by decide +kernel
theorem dX7_of_83 : decode cX7_of 83 = .ok (.ireturn, 1) := by decide +kernel
theorem dX7_of_84 : decode cX7_of 84 = .ok (.aload_n 3, 1) := by decide +kernel
theorem dX7_of_85 : decode cX7_of 85 = .ok (.getfield 156, 3) := by decide +kernel
theorem dX7_of_88 : decode cX7_of 88 = .ok (.ireturn, 1) := by decide +kernel
theorem dX7_of_89 : decode cX7_of 89 = .ok (.aload_n 0, 1) := by decide +kernel
theorem dX7_of_90 : decode cX7_of 90 = .ok (.getfield 10, 3) := by decide +kernel
theorem dX7_of_93 : decode cX7_of 93 = .ok (.getfield 105, 3) := by decide +kernel
theorem dX7_of_96 : decode cX7_of 96 = .ok (.aload_n 3, 1) := by decide +kernel
theorem dX7_of_97 : decode cX7_of 97 = .ok (.invokevirtual 159, 3) := by decide +kernel
theorem dX7_of_100 : decode cX7_of 100 = .ok (.ireturn, 1) := by decide +kernel
theorem dX7_of_101 : decode cX7_of 101 = .ok (.new 140, 3) := by decide +kernel
theorem dX7_of_104 : decode cX7_of 104 = .ok (.dup, 1) := by decide +kernel
theorem dX7_of_105 : decode cX7_of 105 = .ok (.ldc 163, 2) := by decide +kernel
theorem dX7_of_107 : decode cX7_of 107 = .ok (.invokespecial 144, 3) := by decide +kernel
theorem dX7_of_110 : decode cX7_of 110 = .ok (.athrow, 1) := by decide +kernel
set_option maxRecDepth 20000 in
theorem ggX7_level_X7_isSide : GoodIn wsX7_level wsX7_isSide := goodIn_r _ [6] (by decide +kernel) (by decide +kernel)
set_option maxRecDepth 20000 in
theorem gX7_level_X7_isSide : GoodIn wsX7_level (va_wsS RX7 99 yX7_isSide wsX7_isSide) := goodIn_app (goodIn_of _ (by decide +kernel)) ggX7_level_X7_isSide
set_option maxRecDepth 20000 in
theorem ggX7_level_X0_prices : GoodIn wsX7_level wsX0_prices := goodIn_r _ [11, 12, 13, 14, 10, 15, 16, 17, 18, 19, 20, 21, 22, 23, 24, 25, 5, 26, 59, 60, 61, 62, 63, 64, 65, 66, 67, 68] (by decide +kernel) (by decide +kernel)
set_option maxRecDepth 20000 in
theorem gX7_level_X0_prices : GoodIn wsX7_level (wsV RX7 165 RX0 yX0_prices wsX0_prices) := goodIn_app (goodIn_of _ (by decide +kernel)) ggX7_level_X0_prices
set_option maxRecDepth 20000 in
theorem ggX7_level_X0_priceAt : GoodIn wsX7_level wsX0_priceAt := goodIn_r _ [30, 12, 13, 14, 10, 15, 16, 17, 18, 19, 20, 21, 22, 23, 24, 25, 5, 26, 59, 60, 61, 62, 63, 64, 65, 66, 67, 68] (by decide +kernel) (by decide +kernel)
set_option maxRecDepth 20000 in
theorem gX7_level_X0_priceAt : GoodIn wsX7_level (wsV RX7 168 RX0 yX0_priceAt wsX0_priceAt) := goodIn_app (goodIn_of _ (by decide +kernel)) ggX7_level_X0_priceAt
set_option maxRecDepth 20000 in
theorem ggX7_level_X0_sizesAt : GoodIn wsX7_level wsX0_sizesAt := goodIn_r _ [34, 21, 22, 35, 36, 37, 38, 10, 39, 23, 24, 59, 60, 61, 62, 63, 64, 65, 66, 67, 68] (by decide +kernel) (by decide +kernel)
set_option maxRecDepth 20000 in
theorem gX7_level_X0_sizesAt : GoodIn wsX7_level (wsV RX7 171 RX0 yX0_sizesAt wsX0_sizesAt) := goodIn_app (goodIn_of _ (by decide +kernel)) ggX7_level_X0_sizesAt
set_option maxRecDepth 20000 in
theorem ggX7_level_X0_ordersAt : GoodIn wsX7_level wsX0_ordersAt := goodIn_r _ [43, 21, 36, 37, 38, 10, 39, 22, 23, 24, 59, 60, 61, 62, 63, 64, 65, 66, 67, 68] (by decide +kernel) (by decide +kernel)
set_option maxRecDepth 20000 in
theorem gX7_level_X0_ordersAt : GoodIn wsX7_level (wsV RX7 174 RX0 yX0_ordersAt wsX0_ordersAt) := goodIn_app (goodIn_of _ (by decide +kernel)) ggX7_level_X0_ordersAt
theorem dX7_level_0 : decode cX7_level 0 = .ok (.iload_n 1, 1) := by decide +kernel
theorem dX7_level_1 : decode cX7_level 1 = .ok (.invokestatic 99, 3) := by decide +kernel
theorem dX7_level_4 : decode cX7_level 4 = .ok (.ifCond .eq 12, 3) := by decide +kernel
theorem dX7_level_7 : decode cX7_level 7 = .ok (.iload_n 3, 1) := by decide +kernel
theorem dX7_level_8 : decode cX7_level 8 = .ok (.ifCond .lt 8, 3) := by decide +kernel
theorem dX7_level_11 : decode cX7_level 11 = .ok (.iload_n 3, 1) := by decide +kernel
theorem dX7_level_12 : decode cX7_level 12 = .ok (.iconst 2, 1) := by decide +kernel
theorem dX7_level_13 : decode cX7_level 13 = .ok (.if_icmp .le 5, 3) := by decide +kernel
theorem dX7_level_16 : decode cX7_level 16 = .ok (.iconst (-1), 1) := by decide +kernel
theorem dX7_level_17 : decode cX7_level 17 = .ok (.ireturn, 1) := by decide +kernel
theorem dX7_level_18 : decode cX7_level 18 = .ok (.iload_n 2, 1) := by decide +kernel
theorem dX7_level_19 : decode cX7_level 19 = .ok (.iconst (-1), 1) := by decide +kernel
theorem dX7_level_20 : decode cX7_level 20 = .ok (.if_icmp .ne 15, 3) := by decide +kernel
theorem dX7_level_23 : decode cX7_level 23 = .ok (.aload_n 0, 1) := by decide +kernel
theorem dX7_level_24 : decode cX7_level 24 = .ok (.getfield 10, 3) := by decide +kernel
theorem dX7_level_27 : decode cX7_level 27 = .ok (.getfield 105, 3) := by decide +kernel
theorem dX7_level_30 : decode cX7_level 30 = .ok (.iload_n 1, 1) := by decide +kernel
theorem dX7_level_31 : decode cX7_level 31 = .ok (.invokevirtual 165, 3) := by decide +kernel
theorem dX7_level_34 : decode cX7_level 34 = .ok (.ireturn, 1) := by decide +kernel
theorem dX7_level_35 : decode cX7_level 35 = .ok (.aload_n 0, 1) := by decide +kernel
theorem dX7_level_36 : decode cX7_level 36 = .ok (.getfield 10, 3) := by decide +kernel
theorem dX7_level_39 : decode cX7_level 39 = .ok (.getfield 105, 3) := by decide +kernel
theorem dX7_level_42 : decode cX7_level 42 = .ok (.iload_n 1, 1) := by decide +kernel
theorem dX7_level_43 : decode cX7_level 43 = .ok (.iload_n 2, 1) := by decide +kernel
theorem dX7_level_44 : decode cX7_level 44 = .ok (.invokevirtual 168, 3) := by decide +kernel
theorem dX7_level_47 : decode cX7_level 47 = .ok (.istore 4, 2) := by decide +kernel
theorem dX7_level_49 : decode cX7_level 49 = .ok (.iload 4, 2) := by decide +kernel
