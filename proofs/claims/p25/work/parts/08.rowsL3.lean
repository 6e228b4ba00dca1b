set_option maxRecDepth 20000 in
theorem ggL_act_X4_count : GoodIn wsL_act wsX4_count := goodIn_r _ [5, 6, 7, 8, 9, 10, 11, 12, 13, 14, 15, 16, 17, 18, 19, 20, 21, 22, 4, 23, 24, 25, 26, 27, 28, 29, 30, 31, 32, 33, 34, 35, 36, 37, 38, 39, 40, 41, 42, 43, 44, 45, 46, 47, 48, 49, 50, 51, 52, 53, 54, 55, 56, 212, 213, 214, 215, 216, 217, 218, 219, 220, 221, 222, 223, 224, 225, 226, 227, 228, 229, 230, 231, 232, 233, 234, 235, 236, 237] (by decide +kernel) (by decide +kernel)
set_option maxRecDepth 20000 in
theorem gL_act_X4_count : GoodIn wsL_act (wsV RL 14 RX4 yX4_count wsX4_count) := goodIn_app (goodIn_of _ (by decide +kernel)) ggL_act_X4_count
set_option maxRecDepth 20000 in
theorem ggL_act_X4_add : GoodIn wsL_act wsX4_add := goodIn_r _ [60, 7, 9, 19, 21, 22, 4, 23, 61, 62, 63, 64, 65, 66, 67, 68, 69, 70, 44, 71, 72, 73, 74, 30, 75, 41, 32, 76, 77, 78, 50, 79, 80, 81, 82, 83, 84, 85, 86, 87, 88, 89, 90, 91, 92, 93, 94, 95, 96, 97, 98, 212, 213, 214, 215, 216, 217, 218, 219, 220, 221, 222, 223, 224, 225, 226, 227, 228, 229, 230, 231, 232, 235, 236, 237] (by decide +kernel) (by decide +kernel)
set_option maxRecDepth 20000 in
theorem gL_act_X4_add : GoodIn wsL_act (wsV RL 38 RX4 yX4_add wsX4_add) := goodIn_app (goodIn_of _ (by decide +kernel)) ggL_act_X4_add
set_option maxRecDepth 20000 in
theorem ggL_act_X4_excuse : GoodIn wsL_act wsX4_excuse := goodIn_r _ [102, 7, 103, 104, 105, 106, 107, 108, 30, 109, 32, 110, 47, 48, 49, 50, 111, 112, 113, 114, 115, 116, 117, 118, 212, 213, 214, 215, 216, 217, 218, 219, 220, 221, 222, 223, 224, 225, 226, 227, 228, 229, 230, 231, 232] (by decide +kernel) (by decide +kernel)
set_option maxRecDepth 20000 in
theorem gL_act_X4_excuse : GoodIn wsL_act (wsV RL 24 RX4 yX4_excuse wsX4_excuse) := goodIn_app (goodIn_of _ (by decide +kernel)) ggL_act_X4_excuse
set_option maxRecDepth 20000 in
theorem ggL_act_X4_novelty : GoodIn wsL_act wsX4_novelty := goodIn_r _ [122, 7, 123, 124, 4, 125, 21, 22, 23, 106, 107, 108, 30, 109, 32, 126, 38, 39, 40, 41, 42, 43, 44, 45, 46, 47, 48, 49, 50, 51, 52, 53, 54, 55, 56, 212, 213, 214, 215, 216, 217, 218, 219, 220, 221, 222, 223, 224, 225, 226, 227, 228, 229, 230, 231, 232] (by decide +kernel) (by decide +kernel)
set_option maxRecDepth 20000 in
theorem gL_act_X4_novelty : GoodIn wsL_act (wsV RL 27 RX4 yX4_novelty wsX4_novelty) := goodIn_app (goodIn_of _ (by decide +kernel)) ggL_act_X4_novelty
set_option maxRecDepth 20000 in
theorem ggL_act_X4_why : GoodIn wsL_act wsX4_why := goodIn_r _ [130, 7, 131, 132, 133, 4, 134, 123, 124, 125, 21, 22, 23, 106, 107, 108, 30, 109, 32, 135, 136, 137, 138, 41, 84, 76, 79, 115, 116, 117, 118, 50, 139, 140, 141, 142, 77, 85, 37, 38, 39, 40, 42, 43, 44, 45, 46, 47, 48, 49, 51, 52, 53, 54, 55, 56, 143, 144, 145, 146, 212, 213, 214, 215, 216, 217, 218, 219, 220, 221, 222, 223, 224, 225, 226, 227, 228, 229, 230, 231, 232] (by decide +kernel) (by decide +kernel)
set_option maxRecDepth 20000 in
theorem gL_act_X4_why : GoodIn wsL_act (wsV RL 51 RX4 yX4_why wsX4_why) := goodIn_app (goodIn_of _ (by decide +kernel)) ggL_act_X4_why
set_option maxRecDepth 20000 in
theorem ggL_act_X4_weight : GoodIn wsL_act wsX4_weight := goodIn_r _ [150, 7, 131, 132, 133, 4, 134, 123, 124, 125, 21, 22, 23, 106, 107, 108, 30, 109, 32, 151, 140, 141, 142, 77, 41, 85, 37, 38, 39, 40, 42, 43, 44, 45, 46, 47, 48, 49, 50, 51, 52, 53, 54, 55, 56, 143, 144, 145, 146, 79, 212, 213, 214, 215, 216, 217, 218, 219, 220, 221, 222, 223, 224, 225, 226, 227, 228, 229, 230, 231, 232] (by decide +kernel) (by decide +kernel)
set_option maxRecDepth 20000 in
theorem gL_act_X4_weight : GoodIn wsL_act (wsV RL 54 RX4 yX4_weight wsX4_weight) := goodIn_app (goodIn_of _ (by decide +kernel)) ggL_act_X4_weight
set_option maxRecDepth 20000 in
theorem ggL_act_X4_offer : GoodIn wsL_act wsX4_offer := goodIn_r _ [155, 19, 7, 131, 132, 133, 4, 134, 123, 124, 125, 21, 22, 23, 106, 107, 108, 30, 109, 32, 61, 62, 63, 64, 65, 66, 67, 68, 69, 70, 44, 71, 72, 73, 74, 75, 41, 76, 77, 78, 50, 79, 80, 81, 82, 83, 84, 85, 86, 87, 88, 89, 90, 91, 92, 93, 94, 156, 157, 158, 159, 160, 136, 137, 138, 115, 116, 117, 118, 139, 140, 141, 142, 37, 38, 39, 40, 42, 43, 45, 46, 47, 48, 49, 51, 52, 53, 54, 55, 56, 143, 144, 145, 146, 161, 162, 163, 164, 165, 166, 167, 168, 169, 170, 171, 172, 173, 174, 175, 176, 177, 212, 213, 214, 215, 216, 217, 218, 219, 220, 221, 222, 223, 224, 225, 226, 227, 228, 229, 230, 231, 232, 235, 236, 237] (by decide +kernel) (by decide +kernel)
set_option maxRecDepth 20000 in
theorem gL_act_X4_offer : GoodIn wsL_act (wsV RL 44 RX4 yX4_offer wsX4_offer) := goodIn_app (goodIn_of _ (by decide +kernel)) ggL_act_X4_offer
set_option maxRecDepth 20000 in
theorem ggL_act_X4_endTerm : GoodIn wsL_act wsX4_endTerm := goodIn_r _ [181, 19, 7, 182, 61, 62, 63, 64, 65, 66, 67, 68, 69, 70, 44, 71, 72, 73, 74, 30, 75, 41, 32, 76, 77, 78, 50, 79, 80, 81, 82, 83, 84, 85, 86, 87, 88, 4, 89, 90, 91, 92, 93, 94, 24, 25, 26, 183, 184, 185, 186, 173, 212, 213, 214, 215, 216, 217, 218, 219, 220, 221, 222, 223, 224, 225, 226, 227, 228, 229, 230, 231, 232, 235, 236, 237] (by decide +kernel) (by decide +kernel)
set_option maxRecDepth 20000 in
theorem gL_act_X4_endTerm : GoodIn wsL_act (wsV RL 91 RX4 yX4_endTerm wsX4_endTerm) := goodIn_app (goodIn_of _ (by decide +kernel)) ggL_act_X4_endTerm
set_option maxRecDepth 20000 in
theorem ggL_act_X4_pupil : GoodIn wsL_act wsX4_pupil := goodIn_r _ [190, 7, 15, 12, 10, 191, 192, 16, 13, 123, 124, 4, 125, 21, 22, 23, 193, 194, 195, 30, 196, 115, 116, 117, 118, 50, 197, 51, 52, 212, 213, 214, 215, 216, 217, 218, 219, 220, 221, 222, 223, 224, 225, 226, 227, 228, 229, 230, 231, 232] (by decide +kernel) (by decide +kernel)
set_option maxRecDepth 20000 in
theorem gL_act_X4_pupil : GoodIn wsL_act (wsV RL 20 RX4 yX4_pupil wsX4_pupil) := goodIn_app (goodIn_of _ (by decide +kernel)) ggL_act_X4_pupil
set_option maxRecDepth 20000 in
theorem ggL_act_X4_pay : GoodIn wsL_act wsX4_pay := goodIn_r _ [201, 7, 12, 19, 13, 123, 124, 4, 125, 21, 22, 23, 61, 62, 63, 64, 65, 66, 67, 68, 69, 70, 44, 71, 72, 73, 74, 30, 75, 41, 32, 76, 77, 78, 50, 79, 80, 81, 82, 83, 84, 85, 86, 87, 88, 89, 90, 91, 92, 93, 94, 212, 213, 214, 215, 216, 217, 218, 219, 220, 221, 222, 223, 224, 225, 226, 227, 228, 229, 230, 231, 232, 235, 236, 237] (by decide +kernel) (by decide +kernel)
set_option maxRecDepth 20000 in
theorem gL_act_X4_pay : GoodIn wsL_act (wsV RL 48 RX4 yX4_pay wsX4_pay) := goodIn_app (goodIn_of _ (by decide +kernel)) ggL_act_X4_pay
set_option maxRecDepth 20000 in
theorem ggL_act_X4_worth : GoodIn wsL_act wsX4_worth := goodIn_r _ [205, 7, 19, 104, 106, 107, 108, 30, 109, 32, 21, 22, 4, 23, 61, 62, 63, 64, 65, 66, 67, 68, 69, 70, 44, 71, 72, 73, 74, 75, 41, 76, 77, 78, 50, 79, 80, 81, 82, 83, 84, 85, 86, 87, 88, 89, 90, 91, 92, 93, 94, 212, 213, 214, 215, 216, 217, 218, 219, 220, 221, 222, 223, 224, 225, 226, 227, 228, 229, 230, 231, 232, 235, 236, 237] (by decide +kernel) (by decide +kernel)
set_option maxRecDepth 20000 in
theorem gL_act_X4_worth : GoodIn wsL_act (wsV RL 41 RX4 yX4_worth wsX4_worth) := goodIn_app (goodIn_of _ (by decide +kernel)) ggL_act_X4_worth
set_option maxRecDepth 20000 in
theorem ggL_act_X4_set : GoodIn wsL_act wsX4_set := goodIn_r _ [209, 6, 210, 211, 19, 7, 8, 21, 22, 4, 23, 61, 62, 63, 64, 65, 66, 67, 68, 69, 70, 44, 71, 72, 73, 74, 30, 75, 41, 32, 76, 77, 78, 50, 79, 80, 81, 82, 83, 84, 85, 86, 87, 88, 89, 90, 91, 92, 93, 94, 212, 213, 214, 215, 216, 217, 218, 219, 220, 221, 222, 223, 224, 225, 226, 227, 228, 229, 230, 231, 232, 235, 236, 237] (by decide +kernel) (by decide +kernel)
set_option maxRecDepth 20000 in
theorem gL_act_X4_set : GoodIn wsL_act (wsV RL 35 RX4 yX4_set wsX4_set) := goodIn_app (goodIn_of _ (by decide +kernel)) ggL_act_X4_set
theorem dL_act_0 : decode cL_act 0 = .ok (.iload_n 1, 1) := by decide +kernel
theorem dL_act_1 : decode cL_act 1 = .ok (.bipush 16, 2) := by decide +kernel
theorem dL_act_3 : decode cL_act 3 = .ok (.irem, 1) := by decide +kernel
theorem dL_act_4 : decode cL_act 4 = .ok (.istore_n 2, 1) := by decide +kernel
theorem dL_act_5 : decode cL_act 5 = .ok (.iload_n 1, 1) := by decide +kernel
theorem dL_act_6 : decode cL_act 6 = .ok (.bipush 16, 2) := by decide +kernel
theorem dL_act_8 : decode cL_act 8 = .ok (.idiv, 1) := by decide +kernel
theorem dL_act_9 : decode cL_act 9 = .ok (.istore_n 3, 1) := by decide +kernel
theorem dL_act_10 : decode cL_act 10 = .ok (.aload_n 0, 1) := by decide +kernel
theorem dL_act_11 : decode cL_act 11 = .ok (.iconst 5, 1) := by decide +kernel
theorem dL_act_12 : decode cL_act 12 = .ok (.invokevirtual 14, 3) := by decide +kernel
theorem dL_act_15 : decode cL_act 15 = .ok (.istore 4, 2) := by decide +kernel
theorem dL_act_17 : decode cL_act 17 = .ok (.iload_n 2, 1) := by decide +kernel
theorem dL_act_18 : decode cL_act 18 = .ok (.iconst 2, 1) := by decide +kernel
theorem dL_act_19 : decode cL_act 19 = .ok (.if_icmp .lt 8, 3) := by decide +kernel
theorem dL_act_22 : decode cL_act 22 = .ok (.iload 4, 2) := by decide +kernel
theorem dL_act_24 : decode cL_act 24 = .ok (.ifCond .ne 110, 3) := by decide +kernel
theorem dL_act_27 : decode cL_act 27 = .ok (.aload_n 0, 1) := by decide +kernel
theorem dL_act_28 : decode cL_act 28 = .ok (.iload_n 3, 1) := by decide +kernel
theorem dL_act_29 : decode cL_act 29 = .ok (.iconst 5, 1) := by decide +kernel
theorem dL_act_30 : decode cL_act 30 = .ok (.irem, 1) := by decide +kernel
theorem dL_act_31 : decode cL_act 31 = .ok (.iconst 1, 1) := by decide +kernel
theorem dL_act_32 : decode cL_act 32 = .ok (.iload_n 3, 1) := by decide +kernel
theorem dL_act_33 : decode cL_act 33 = .ok (.iconst 5, 1) := by decide +kernel
theorem dL_act_34 : decode cL_act 34 = .ok (.idiv, 1) := by decide +kernel
theorem dL_act_35 : decode cL_act 35 = .ok (.bipush 99, 2) := by decide +kernel
theorem dL_act_37 : decode cL_act 37 = .ok (.irem, 1) := by decide +kernel
theorem dL_act_38 : decode cL_act 38 = .ok (.iadd, 1) := by decide +kernel
theorem dL_act_39 : decode cL_act 39 = .ok (.invokevirtual 38, 3) := by decide +kernel
theorem dL_act_42 : decode cL_act 42 = .ok (.istore 5, 2) := by decide +kernel
theorem dL_act_44 : decode cL_act 44 = .ok (.iload 4, 2) := by decide +kernel
theorem dL_act_46 : decode cL_act 46 = .ok (.bipush 12, 2) := by decide +kernel
theorem dL_act_48 : decode cL_act 48 = .ok (.if_icmp .ne 19, 3) := by decide +kernel
theorem dL_act_51 : decode cL_act 51 = .ok (.iload 5, 2) := by decide +kernel
theorem dL_act_53 : decode cL_act 53 = .ok (.bipush (-4), 2) := by decide +kernel
theorem dL_act_55 : decode cL_act 55 = .ok (.if_icmp .ne 7, 3) := by decide +kernel
theorem dL_act_58 : decode cL_act 58 = .ok (.iconst 0, 1) := by decide +kernel
theorem dL_act_59 : decode cL_act 59 = .ok (.goto 74, 3) := by decide +kernel
theorem dL_act_62 : decode cL_act 62 = .ok (.bipush (-9), 2) := by decide +kernel
theorem dL_act_64 : decode cL_act 64 = .ok (.goto 69, 3) := by decide +kernel
theorem dL_act_67 : decode cL_act 67 = .ok (.iload 5, 2) := by decide +kernel
theorem dL_act_69 : decode cL_act 69 = .ok (.iload 4, 2) := by decide +kernel
theorem dL_act_71 : decode cL_act 71 = .ok (.if_icmp .ne 60, 3) := by decide +kernel
theorem dL_act_74 : decode cL_act 74 = .ok (.aload_n 0, 1) := by decide +kernel
theorem dL_act_75 : decode cL_act 75 = .ok (.iload 5, 2) := by decide +kernel
theorem dL_act_77 : decode cL_act 77 = .ok (.iconst 0, 1) := by decide +kernel
theorem dL_act_78 : decode cL_act 78 = .ok (.invokevirtual 24, 3) := by decide +kernel
theorem dL_act_81 : decode cL_act 81 = .ok (.iload_n 3, 1) := by decide +kernel
theorem dL_act_82 : decode cL_act 82 = .ok (.iconst 5, 1) := by decide +kernel
theorem dL_act_83 : decode cL_act 83 = .ok (.irem, 1) := by decide +kernel
theorem dL_act_84 : decode cL_act 84 = .ok (.if_icmp .ne 47, 3) := by decide +kernel
theorem dL_act_87 : decode cL_act 87 = .ok (.aload_n 0, 1) := by decide +kernel
theorem dL_act_88 : decode cL_act 88 = .ok (.iload 5, 2) := by decide +kernel
theorem dL_act_90 : decode cL_act 90 = .ok (.iconst 1, 1) := by decide +kernel
theorem dL_act_91 : decode cL_act 91 = .ok (.invokevirtual 24, 3) := by decide +kernel
theorem dL_act_94 : decode cL_act 94 = .ok (.iconst 1, 1) := by decide +kernel
theorem dL_act_95 : decode cL_act 95 = .ok (.iload_n 3, 1) := by decide +kernel
theorem dL_act_96 : decode cL_act 96 = .ok (.iconst 5, 1) := by decide +kernel
theorem dL_act_97 : decode cL_act 97 = .ok (.idiv, 1) := by decide +kernel
theorem dL_act_98 : decode cL_act 98 = .ok (.bipush 99, 2) := by decide +kernel
theorem dL_act_100 : decode cL_act 100 = .ok (.irem, 1) := by decide +kernel
theorem dL_act_101 : decode cL_act 101 = .ok (.iadd, 1) := by decide +kernel
theorem dL_act_102 : decode cL_act 102 = .ok (.if_icmp .ne 29, 3) := by decide +kernel
theorem dL_act_105 : decode cL_act 105 = .ok (.aload_n 0, 1) := by decide +kernel
theorem dL_act_106 : decode cL_act 106 = .ok (.iload 5, 2) := by decide +kernel
theorem dL_act_108 : decode cL_act 108 = .ok (.iconst 2, 1) := by decide +kernel
theorem dL_act_109 : decode cL_act 109 = .ok (.invokevirtual 24, 3) := by decide +kernel
theorem dL_act_112 : decode cL_act 112 = .ok (.ifCond .ne 19, 3) := by decide +kernel
theorem dL_act_115 : decode cL_act 115 = .ok (.aload_n 0, 1) := by decide +kernel
theorem dL_act_116 : decode cL_act 116 = .ok (.iconst 0, 1) := by decide +kernel
theorem dL_act_117 : decode cL_act 117 = .ok (.iload 5, 2) := by decide +kernel
theorem dL_act_119 : decode cL_act 119 = .ok (.invokevirtual 27, 3) := by decide +kernel
theorem dL_act_122 : decode cL_act 122 = .ok (.bipush 100, 2) := by decide +kernel
theorem dL_act_124 : decode cL_act 124 = .ok (.if_icmp .ne 7, 3) := by decide +kernel
theorem dL_act_127 : decode cL_act 127 = .ok (.iconst 1, 1) := by decide +kernel
theorem dL_act_128 : decode cL_act 128 = .ok (.goto 5, 3) := by decide +kernel
theorem dL_act_131 : decode cL_act 131 = .ok (.bipush (-9), 2) := by decide +kernel
theorem dL_act_133 : decode cL_act 133 = .ok (.ireturn, 1) := by decide +kernel
theorem dL_act_134 : decode cL_act 134 = .ok (.iload_n 3, 1) := by decide +kernel
theorem dL_act_135 : decode cL_act 135 = .ok (.iload 4, 2) := by decide +kernel
theorem dL_act_137 : decode cL_act 137 = .ok (.irem, 1) := by decide +kernel
theorem dL_act_138 : decode cL_act 138 = .ok (.istore 5, 2) := by decide +kernel
theorem dL_act_140 : decode cL_act 140 = .ok (.iload_n 3, 1) := by decide +kernel
theorem dL_act_141 : decode cL_act 141 = .ok (.bipush 12, 2) := by decide +kernel
theorem dL_act_143 : decode cL_act 143 = .ok (.idiv, 1) := by decide +kernel
theorem dL_act_144 : decode cL_act 144 = .ok (.bipush 10, 2) := by decide +kernel
theorem dL_act_146 : decode cL_act 146 = .ok (.irem, 1) := by decide +kernel
theorem dL_act_147 : decode cL_act 147 = .ok (.istore 6, 2) := by decide +kernel
theorem dL_act_149 : decode cL_act 149 = .ok (.iload_n 2, 1) := by decide +kernel
theorem dL_act_150 : decode cL_act 150 = .ok (.bipush 12, 2) := by decide +kernel
theorem dL_act_152 : decode cL_act 152 = .ok (.if_icmp .ge 281, 3) := by decide +kernel
theorem dL_act_155 : decode cL_act 155 = .ok (.iload_n 3, 1) := by decide +kernel
theorem dL_act_156 : decode cL_act 156 = .ok (.bipush 120, 2) := by decide +kernel
theorem dL_act_158 : decode cL_act 158 = .ok (.idiv, 1) := by decide +kernel
theorem dL_act_159 : decode cL_act 159 = .ok (.iconst 3, 1) := by decide +kernel
theorem dL_act_160 : decode cL_act 160 = .ok (.irem, 1) := by decide +kernel
theorem dL_act_161 : decode cL_act 161 = .ok (.ifCond .ne 8, 3) := by decide +kernel
theorem dL_act_164 : decode cL_act 164 = .ok (.bipush (-6), 2) := by decide +kernel
theorem dL_act_166 : decode cL_act 166 = .ok (.goto 19, 3) := by decide +kernel
theorem dL_act_169 : decode cL_act 169 = .ok (.iload 6, 2) := by decide +kernel
theorem dL_act_171 : decode cL_act 171 = .ok (.iconst 1, 1) := by decide +kernel
theorem dL_act_172 : decode cL_act 172 = .ok (.iadd, 1) := by decide +kernel
theorem dL_act_173 : decode cL_act 173 = .ok (.iload_n 3, 1) := by decide +kernel
theorem dL_act_174 : decode cL_act 174 = .ok (.sipush 360, 3) := by decide +kernel
theorem dL_act_177 : decode cL_act 177 = .ok (.idiv, 1) := by decide +kernel
theorem dL_act_178 : decode cL_act 178 = .ok (.bipush 9, 2) := by decide +kernel
theorem dL_act_180 : decode cL_act 180 = .ok (.irem, 1) := by decide +kernel
theorem dL_act_181 : decode cL_act 181 = .ok (.iadd, 1) := by decide +kernel
theorem dL_act_182 : decode cL_act 182 = .ok (.bipush 10, 2) := by decide +kernel
theorem dL_act_184 : decode cL_act 184 = .ok (.irem, 1) := by decide +kernel
theorem dL_act_185 : decode cL_act 185 = .ok (.istore 7, 2) := by decide +kernel
theorem dL_act_187 : decode cL_act 187 = .ok (.iconst 1, 1) := by decide +kernel
theorem dL_act_188 : decode cL_act 188 = .ok (.iload_n 3, 1) := by decide +kernel
theorem dL_act_189 : decode cL_act 189 = .ok (.sipush 3240, 3) := by decide +kernel
theorem dL_act_192 : decode cL_act 192 = .ok (.idiv, 1) := by decide +kernel
theorem dL_act_193 : decode cL_act 193 = .ok (.iload_n 3, 1) := by decide +kernel
theorem dL_act_194 : decode cL_act 194 = .ok (.iconst 2, 1) := by decide +kernel
theorem dL_act_195 : decode cL_act 195 = .ok (.irem, 1) := by decide +kernel
theorem dL_act_196 : decode cL_act 196 = .ok (.ifCond .ne 8, 3) := by decide +kernel
theorem dL_act_199 : decode cL_act 199 = .ok (.bipush 99, 2) := by decide +kernel
theorem dL_act_201 : decode cL_act 201 = .ok (.goto 5, 3) := by decide +kernel
theorem dL_act_204 : decode cL_act 204 = .ok (.bipush 12, 2) := by decide +kernel
theorem dL_act_206 : decode cL_act 206 = .ok (.irem, 1) := by decide +kernel
theorem dL_act_207 : decode cL_act 207 = .ok (.iadd, 1) := by decide +kernel
theorem dL_act_208 : decode cL_act 208 = .ok (.istore 8, 2) := by decide +kernel
theorem dL_act_210 : decode cL_act 210 = .ok (.aload_n 0, 1) := by decide +kernel
theorem dL_act_211 : decode cL_act 211 = .ok (.iload 6, 2) := by decide +kernel
theorem dL_act_213 : decode cL_act 213 = .ok (.iload 5, 2) := by decide +kernel
theorem dL_act_215 : decode cL_act 215 = .ok (.iload 7, 2) := by decide +kernel
theorem dL_act_217 : decode cL_act 217 = .ok (.iload 8, 2) := by decide +kernel
theorem dL_act_219 : decode cL_act 219 = .ok (.invokevirtual 51, 3) := by decide +kernel
theorem dL_act_222 : decode cL_act 222 = .ok (.istore 9, 2) := by decide +kernel
theorem dL_act_224 : decode cL_act 224 = .ok (.aload_n 0, 1) := by decide +kernel
theorem dL_act_225 : decode cL_act 225 = .ok (.iload 6, 2) := by decide +kernel
theorem dL_act_227 : decode cL_act 227 = .ok (.iload 5, 2) := by decide +kernel
theorem dL_act_229 : decode cL_act 229 = .ok (.iload 7, 2) := by decide +kernel
theorem dL_act_231 : decode cL_act 231 = .ok (.iload 8, 2) := by decide +kernel
theorem dL_act_233 : decode cL_act 233 = .ok (.invokevirtual 54, 3) := by decide +kernel
theorem dL_act_236 : decode cL_act 236 = .ok (.istore 10, 2) := by decide +kernel
theorem dL_act_238 : decode cL_act 238 = .ok (.aload_n 0, 1) := by decide +kernel
theorem dL_act_239 : decode cL_act 239 = .ok (.bipush 6, 2) := by decide +kernel
theorem dL_act_241 : decode cL_act 241 = .ok (.invokevirtual 14, 3) := by decide +kernel
theorem dL_act_244 : decode cL_act 244 = .ok (.istore 11, 2) := by decide +kernel
theorem dL_act_246 : decode cL_act 246 = .ok (.aload_n 0, 1) := by decide +kernel
theorem dL_act_247 : decode cL_act 247 = .ok (.bipush 13, 2) := by decide +kernel
theorem dL_act_249 : decode cL_act 249 = .ok (.invokevirtual 14, 3) := by decide +kernel
theorem dL_act_252 : decode cL_act 252 = .ok (.istore 12, 2) := by decide +kernel
theorem dL_act_254 : decode cL_act 254 = .ok (.aload_n 0, 1) := by decide +kernel
theorem dL_act_255 : decode cL_act 255 = .ok (.bipush 15, 2) := by decide +kernel
theorem dL_act_257 : decode cL_act 257 = .ok (.invokevirtual 14, 3) := by decide +kernel
theorem dL_act_260 : decode cL_act 260 = .ok (.istore 13, 2) := by decide +kernel
theorem dL_act_262 : decode cL_act 262 = .ok (.aload_n 0, 1) := by decide +kernel
theorem dL_act_263 : decode cL_act 263 = .ok (.iload 6, 2) := by decide +kernel
theorem dL_act_265 : decode cL_act 265 = .ok (.iload 5, 2) := by decide +kernel
theorem dL_act_267 : decode cL_act 267 = .ok (.iload 7, 2) := by decide +kernel
theorem dL_act_269 : decode cL_act 269 = .ok (.iload 8, 2) := by decide +kernel
theorem dL_act_271 : decode cL_act 271 = .ok (.invokevirtual 44, 3) := by decide +kernel
theorem dL_act_274 : decode cL_act 274 = .ok (.istore 14, 2) := by decide +kernel
theorem dL_act_276 : decode cL_act 276 = .ok (.iload 14, 2) := by decide +kernel
theorem dL_act_278 : decode cL_act 278 = .ok (.iload 9, 2) := by decide +kernel
theorem dL_act_280 : decode cL_act 280 = .ok (.if_icmp .ne 150, 3) := by decide +kernel
theorem dL_act_283 : decode cL_act 283 = .ok (.iload 9, 2) := by decide +kernel
theorem dL_act_285 : decode cL_act 285 = .ok (.ifCond .lt 145, 3) := by decide +kernel
theorem dL_act_288 : decode cL_act 288 = .ok (.iload 9, 2) := by decide +kernel
theorem dL_act_290 : decode cL_act 290 = .ok (.iconst 5, 1) := by decide +kernel
theorem dL_act_291 : decode cL_act 291 = .ok (.if_icmp .ge 139, 3) := by decide +kernel
theorem dL_act_294 : decode cL_act 294 = .ok (.iload 9, 2) := by decide +kernel
theorem dL_act_296 : decode cL_act 296 = .ok (.ifCond .gt 17, 3) := by decide +kernel
theorem dL_act_299 : decode cL_act 299 = .ok (.iload 10, 2) := by decide +kernel
theorem dL_act_301 : decode cL_act 301 = .ok (.sipush 1000, 3) := by decide +kernel
theorem dL_act_304 : decode cL_act 304 = .ok (.aload_n 0, 1) := by decide +kernel
theorem dL_act_305 : decode cL_act 305 = .ok (.iconst 0, 1) := by decide +kernel
theorem dL_act_306 : decode cL_act 306 = .ok (.invokevirtual 14, 3) := by decide +kernel
theorem dL_act_309 : decode cL_act 309 = .ok (.iadd, 1) := by decide +kernel
theorem dL_act_310 : decode cL_act 310 = .ok (.if_icmp .lt 120, 3) := by decide +kernel
theorem dL_act_313 : decode cL_act 313 = .ok (.iload 9, 2) := by decide +kernel
theorem dL_act_315 : decode cL_act 315 = .ok (.iconst 4, 1) := by decide +kernel
theorem dL_act_316 : decode cL_act 316 = .ok (.if_icmp .ne 17, 3) := by decide +kernel
theorem dL_act_319 : decode cL_act 319 = .ok (.iload 10, 2) := by decide +kernel
theorem dL_act_321 : decode cL_act 321 = .ok (.sipush 1000, 3) := by decide +kernel
theorem dL_act_324 : decode cL_act 324 = .ok (.aload_n 0, 1) := by decide +kernel
theorem dL_act_325 : decode cL_act 325 = .ok (.iconst 0, 1) := by decide +kernel
theorem dL_act_326 : decode cL_act 326 = .ok (.invokevirtual 14, 3) := by decide +kernel
theorem dL_act_329 : decode cL_act 329 = .ok (.iadd, 1) := by decide +kernel
theorem dL_act_330 : decode cL_act 330 = .ok (.if_icmp .ge 100, 3) := by decide +kernel
theorem dL_act_333 : decode cL_act 333 = .ok (.aload_n 0, 1) := by decide +kernel
theorem dL_act_334 : decode cL_act 334 = .ok (.bipush 6, 2) := by decide +kernel
theorem dL_act_336 : decode cL_act 336 = .ok (.invokevirtual 14, 3) := by decide +kernel
theorem dL_act_339 : decode cL_act 339 = .ok (.iload 11, 2) := by decide +kernel
theorem dL_act_341 : decode cL_act 341 = .ok (.iload 9, 2) := by decide +kernel
theorem dL_act_343 : decode cL_act 343 = .ok (.ifCond .ne 7, 3) := by decide +kernel
theorem dL_act_346 : decode cL_act 346 = .ok (.iconst 1, 1) := by decide +kernel
theorem dL_act_347 : decode cL_act 347 = .ok (.goto 4, 3) := by decide +kernel
theorem dL_act_350 : decode cL_act 350 = .ok (.iconst 0, 1) := by decide +kernel
theorem dL_act_351 : decode cL_act 351 = .ok (.iadd, 1) := by decide +kernel
theorem dL_act_352 : decode cL_act 352 = .ok (.if_icmp .ne 78, 3) := by decide +kernel
theorem dL_act_355 : decode cL_act 355 = .ok (.aload_n 0, 1) := by decide +kernel
theorem dL_act_356 : decode cL_act 356 = .ok (.bipush 13, 2) := by decide +kernel
theorem dL_act_358 : decode cL_act 358 = .ok (.invokevirtual 14, 3) := by decide +kernel
theorem dL_act_361 : decode cL_act 361 = .ok (.iload 12, 2) := by decide +kernel
theorem dL_act_363 : decode cL_act 363 = .ok (.iload 9, 2) := by decide +kernel
theorem dL_act_365 : decode cL_act 365 = .ok (.ifCond .le 14, 3) := by decide +kernel
theorem dL_act_368 : decode cL_act 368 = .ok (.aload_n 0, 1) := by decide +kernel
theorem dL_act_369 : decode cL_act 369 = .ok (.iconst 3, 1) := by decide +kernel
theorem dL_act_370 : decode cL_act 370 = .ok (.invokevirtual 14, 3) := by decide +kernel
theorem dL_act_373 : decode cL_act 373 = .ok (.iload 8, 2) := by decide +kernel
theorem dL_act_375 : decode cL_act 375 = .ok (.imul, 1) := by decide +kernel
theorem dL_act_376 : decode cL_act 376 = .ok (.goto 4, 3) := by decide +kernel
theorem dL_act_379 : decode cL_act 379 = .ok (.iconst 0, 1) := by decide +kernel
theorem dL_act_380 : decode cL_act 380 = .ok (.iadd, 1) := by decide +kernel
theorem dL_act_381 : decode cL_act 381 = .ok (.if_icmp .ne 49, 3) := by decide +kernel
theorem dL_act_384 : decode cL_act 384 = .ok (.aload_n 0, 1) := by decide +kernel
theorem dL_act_385 : decode cL_act 385 = .ok (.bipush 15, 2) := by decide +kernel
theorem dL_act_387 : decode cL_act 387 = .ok (.invokevirtual 14, 3) := by decide +kernel
theorem dL_act_390 : decode cL_act 390 = .ok (.iload 13, 2) := by decide +kernel
theorem dL_act_392 : decode cL_act 392 = .ok (.if_icmp .gt 38, 3) := by decide +kernel
theorem dL_act_395 : decode cL_act 395 = .ok (.aload_n 0, 1) := by decide +kernel
theorem dL_act_396 : decode cL_act 396 = .ok (.bipush 15, 2) := by decide +kernel
theorem dL_act_398 : decode cL_act 398 = .ok (.invokevirtual 14, 3) := by decide +kernel
theorem dL_act_401 : decode cL_act 401 = .ok (.iload 13, 2) := by decide +kernel
theorem dL_act_403 : decode cL_act 403 = .ok (.iconst 2, 1) := by decide +kernel
theorem dL_act_404 : decode cL_act 404 = .ok (.isub, 1) := by decide +kernel
theorem dL_act_405 : decode cL_act 405 = .ok (.if_icmp .lt 25, 3) := by decide +kernel
theorem dL_act_408 : decode cL_act 408 = .ok (.iload 7, 2) := by decide +kernel
theorem dL_act_410 : decode cL_act 410 = .ok (.bipush (-6), 2) := by decide +kernel
theorem dL_act_412 : decode cL_act 412 = .ok (.if_icmp .ne 14, 3) := by decide +kernel
theorem dL_act_415 : decode cL_act 415 = .ok (.aload_n 0, 1) := by decide +kernel
theorem dL_act_416 : decode cL_act 416 = .ok (.bipush 15, 2) := by decide +kernel
theorem dL_act_418 : decode cL_act 418 = .ok (.invokevirtual 14, 3) := by decide +kernel
theorem dL_act_421 : decode cL_act 421 = .ok (.iload 13, 2) := by decide +kernel
theorem dL_act_423 : decode cL_act 423 = .ok (.if_icmp .ne 7, 3) := by decide +kernel
theorem dL_act_426 : decode cL_act 426 = .ok (.iconst 1, 1) := by decide +kernel
theorem dL_act_427 : decode cL_act 427 = .ok (.goto 5, 3) := by decide +kernel
theorem dL_act_430 : decode cL_act 430 = .ok (.bipush (-9), 2) := by decide +kernel
theorem dL_act_432 : decode cL_act 432 = .ok (.ireturn, 1) := by decide +kernel
theorem dL_act_433 : decode cL_act 433 = .ok (.iload_n 2, 1) := by decide +kernel
theorem dL_act_434 : decode cL_act 434 = .ok (.bipush 12, 2) := by decide +kernel
theorem dL_act_436 : decode cL_act 436 = .ok (.if_icmp .ne 175, 3) := by decide +kernel
theorem dL_act_439 : decode cL_act 439 = .ok (.aload_n 0, 1) := by decide +kernel
theorem dL_act_440 : decode cL_act 440 = .ok (.bipush 11, 2) := by decide +kernel
theorem dL_act_442 : decode cL_act 442 = .ok (.invokevirtual 14, 3) := by decide +kernel
theorem dL_act_445 : decode cL_act 445 = .ok (.istore 7, 2) := by decide +kernel
theorem dL_act_447 : decode cL_act 447 = .ok (.aload_n 0, 1) := by decide +kernel
theorem dL_act_448 : decode cL_act 448 = .ok (.iconst 1, 1) := by decide +kernel
theorem dL_act_449 : decode cL_act 449 = .ok (.invokevirtual 14, 3) := by decide +kernel
theorem dL_act_452 : decode cL_act 452 = .ok (.istore 8, 2) := by decide +kernel
theorem dL_act_454 : decode cL_act 454 = .ok (.aload_n 0, 1) := by decide +kernel
theorem dL_act_455 : decode cL_act 455 = .ok (.invokevirtual 91, 3) := by decide +kernel
theorem dL_act_458 : decode cL_act 458 = .ok (.istore 9, 2) := by decide +kernel
theorem dL_act_460 : decode cL_act 460 = .ok (.iload 9, 2) := by decide +kernel
theorem dL_act_462 : decode cL_act 462 = .ok (.ifCond .lt 48, 3) := by decide +kernel
theorem dL_act_465 : decode cL_act 465 = .ok (.iload 9, 2) := by decide +kernel
theorem dL_act_467 : decode cL_act 467 = .ok (.aload_n 0, 1) := by decide +kernel
theorem dL_act_468 : decode cL_act 468 = .ok (.bipush 6, 2) := by decide +kernel
theorem dL_act_470 : decode cL_act 470 = .ok (.invokevirtual 14, 3) := by decide +kernel
theorem dL_act_473 : decode cL_act 473 = .ok (.if_icmp .gt 37, 3) := by decide +kernel
theorem dL_act_476 : decode cL_act 476 = .ok (.aload_n 0, 1) := by decide +kernel
theorem dL_act_477 : decode cL_act 477 = .ok (.bipush 11, 2) := by decide +kernel
theorem dL_act_479 : decode cL_act 479 = .ok (.invokevirtual 14, 3) := by decide +kernel
theorem dL_act_482 : decode cL_act 482 = .ok (.iload 7, 2) := by decide +kernel
theorem dL_act_484 : decode cL_act 484 = .ok (.if_icmp .ne 26, 3) := by decide +kernel
theorem dL_act_487 : decode cL_act 487 = .ok (.aload_n 0, 1) := by decide +kernel
theorem dL_act_488 : decode cL_act 488 = .ok (.iconst 1, 1) := by decide +kernel
theorem dL_act_489 : decode cL_act 489 = .ok (.invokevirtual 14, 3) := by decide +kernel
theorem dL_act_492 : decode cL_act 492 = .ok (.iload 8, 2) := by decide +kernel
theorem dL_act_494 : decode cL_act 494 = .ok (.if_icmp .ne 16, 3) := by decide +kernel
theorem dL_act_497 : decode cL_act 497 = .ok (.aload_n 0, 1) := by decide +kernel
theorem dL_act_498 : decode cL_act 498 = .ok (.bipush 17, 2) := by decide +kernel
theorem dL_act_500 : decode cL_act 500 = .ok (.invokevirtual 14, 3) := by decide +kernel
theorem dL_act_503 : decode cL_act 503 = .ok (.ifCond .ne 7, 3) := by decide +kernel
theorem dL_act_506 : decode cL_act 506 = .ok (.iconst 1, 1) := by decide +kernel
theorem dL_act_507 : decode cL_act 507 = .ok (.goto 4, 3) := by decide +kernel
theorem dL_act_510 : decode cL_act 510 = .ok (.iconst 0, 1) := by decide +kernel
theorem dL_act_511 : decode cL_act 511 = .ok (.istore 10, 2) := by decide +kernel
theorem dL_act_513 : decode cL_act 513 = .ok (.iconst 0, 1) := by decide +kernel
theorem dL_act_514 : decode cL_act 514 = .ok (.istore 11, 2) := by decide +kernel
theorem dL_act_516 : decode cL_act 516 = .ok (.iload 11, 2) := by decide +kernel
theorem dL_act_518 : decode cL_act 518 = .ok (.bipush 10, 2) := by decide +kernel
theorem dL_act_520 : decode cL_act 520 = .ok (.if_icmp .ge 79, 3) := by decide +kernel
theorem dL_act_523 : decode cL_act 523 = .ok (.iload 10, 2) := by decide +kernel
theorem dL_act_525 : decode cL_act 525 = .ok (.ifCond .eq 65, 3) := by decide +kernel
theorem dL_act_528 : decode cL_act 528 = .ok (.aload_n 0, 1) := by decide +kernel
theorem dL_act_529 : decode cL_act 529 = .ok (.iload 11, 2) := by decide +kernel
theorem dL_act_531 : decode cL_act 531 = .ok (.iconst 4, 1) := by decide +kernel
theorem dL_act_532 : decode cL_act 532 = .ok (.invokevirtual 20, 3) := by decide +kernel
theorem dL_act_535 : decode cL_act 535 = .ok (.bipush (-6), 2) := by decide +kernel
theorem dL_act_537 : decode cL_act 537 = .ok (.if_icmp .ne 53, 3) := by decide +kernel
theorem dL_act_540 : decode cL_act 540 = .ok (.aload_n 0, 1) := by decide +kernel
theorem dL_act_541 : decode cL_act 541 = .ok (.iload 11, 2) := by decide +kernel
theorem dL_act_543 : decode cL_act 543 = .ok (.iconst 5, 1) := by decide +kernel
theorem dL_act_544 : decode cL_act 544 = .ok (.invokevirtual 20, 3) := by decide +kernel
theorem dL_act_547 : decode cL_act 547 = .ok (.ifCond .ne 43, 3) := by decide +kernel
theorem dL_act_550 : decode cL_act 550 = .ok (.aload_n 0, 1) := by decide +kernel
theorem dL_act_551 : decode cL_act 551 = .ok (.iload 11, 2) := by decide +kernel
theorem dL_act_553 : decode cL_act 553 = .ok (.iconst 0, 1) := by decide +kernel
theorem dL_act_554 : decode cL_act 554 = .ok (.invokevirtual 20, 3) := by decide +kernel
theorem dL_act_557 : decode cL_act 557 = .ok (.iconst 1, 1) := by decide +kernel
theorem dL_act_558 : decode cL_act 558 = .ok (.if_icmp .le 32, 3) := by decide +kernel
theorem dL_act_561 : decode cL_act 561 = .ok (.aload_n 0, 1) := by decide +kernel
theorem dL_act_562 : decode cL_act 562 = .ok (.iload 11, 2) := by decide +kernel
theorem dL_act_564 : decode cL_act 564 = .ok (.bipush 6, 2) := by decide +kernel
theorem dL_act_566 : decode cL_act 566 = .ok (.invokevirtual 20, 3) := by decide +kernel
theorem dL_act_569 : decode cL_act 569 = .ok (.iconst 5, 1) := by decide +kernel
theorem dL_act_570 : decode cL_act 570 = .ok (.if_icmp .ge 20, 3) := by decide +kernel
theorem dL_act_573 : decode cL_act 573 = .ok (.aload_n 0, 1) := by decide +kernel
theorem dL_act_574 : decode cL_act 574 = .ok (.iload 11, 2) := by decide +kernel
theorem dL_act_576 : decode cL_act 576 = .ok (.iload 5, 2) := by decide +kernel
theorem dL_act_578 : decode cL_act 578 = .ok (.invokevirtual 27, 3) := by decide +kernel
theorem dL_act_581 : decode cL_act 581 = .ok (.bipush 100, 2) := by decide +kernel
theorem dL_act_583 : decode cL_act 583 = .ok (.if_icmp .ne 7, 3) := by decide +kernel
theorem dL_act_586 : decode cL_act 586 = .ok (.iconst 1, 1) := by decide +kernel
theorem dL_act_587 : decode cL_act 587 = .ok (.goto 4, 3) := by decide +kernel
theorem dL_act_590 : decode cL_act 590 = .ok (.iconst 0, 1) := by decide +kernel
theorem dL_act_591 : decode cL_act 591 = .ok (.istore 10, 2) := by decide +kernel
theorem dL_act_593 : decode cL_act 593 = .ok (.iinc 11 1, 3) := by decide +kernel
theorem dL_act_596 : decode cL_act 596 = .ok (.goto (-80), 3) := by decide +kernel
theorem dL_act_599 : decode cL_act 599 = .ok (.iload 10, 2) := by decide +kernel
theorem dL_act_601 : decode cL_act 601 = .ok (.ifCond .eq 7, 3) := by decide +kernel
theorem dL_act_604 : decode cL_act 604 = .ok (.iconst 1, 1) := by decide +kernel
theorem dL_act_605 : decode cL_act 605 = .ok (.goto 5, 3) := by decide +kernel
theorem dL_act_608 : decode cL_act 608 = .ok (.bipush (-9), 2) := by decide +kernel
theorem dL_act_610 : decode cL_act 610 = .ok (.ireturn, 1) := by decide +kernel
theorem dL_act_611 : decode cL_act 611 = .ok (.iload_n 2, 1) := by decide +kernel
theorem dL_act_612 : decode cL_act 612 = .ok (.bipush 13, 2) := by decide +kernel
theorem dL_act_614 : decode cL_act 614 = .ok (.if_icmp .ne 154, 3) := by decide +kernel
theorem dL_act_617 : decode cL_act 617 = .ok (.aload_n 0, 1) := by decide +kernel
theorem dL_act_618 : decode cL_act 618 = .ok (.iload 6, 2) := by decide +kernel
theorem dL_act_620 : decode cL_act 620 = .ok (.iconst 1, 1) := by decide +kernel
theorem dL_act_621 : decode cL_act 621 = .ok (.invokevirtual 20, 3) := by decide +kernel
theorem dL_act_624 : decode cL_act 624 = .ok (.istore 7, 2) := by decide +kernel
theorem dL_act_626 : decode cL_act 626 = .ok (.iload_n 3, 1) := by decide +kernel
theorem dL_act_627 : decode cL_act 627 = .ok (.bipush 120, 2) := by decide +kernel
theorem dL_act_629 : decode cL_act 629 = .ok (.idiv, 1) := by decide +kernel
theorem dL_act_630 : decode cL_act 630 = .ok (.iconst 2, 1) := by decide +kernel
theorem dL_act_631 : decode cL_act 631 = .ok (.irem, 1) := by decide +kernel
theorem dL_act_632 : decode cL_act 632 = .ok (.ifCond .eq 8, 3) := by decide +kernel
theorem dL_act_635 : decode cL_act 635 = .ok (.iload 7, 2) := by decide +kernel
theorem dL_act_637 : decode cL_act 637 = .ok (.ifCond .ne 17, 3) := by decide +kernel
theorem dL_act_640 : decode cL_act 640 = .ok (.iconst 1, 1) := by decide +kernel
theorem dL_act_641 : decode cL_act 641 = .ok (.iload_n 3, 1) := by decide +kernel
theorem dL_act_642 : decode cL_act 642 = .ok (.sipush 240, 3) := by decide +kernel
theorem dL_act_645 : decode cL_act 645 = .ok (.idiv, 1) := by decide +kernel
theorem dL_act_646 : decode cL_act 646 = .ok (.sipush 300, 3) := by decide +kernel
theorem dL_act_649 : decode cL_act 649 = .ok (.irem, 1) := by decide +kernel
theorem dL_act_650 : decode cL_act 650 = .ok (.iadd, 1) := by decide +kernel
theorem dL_act_651 : decode cL_act 651 = .ok (.goto 13, 3) := by decide +kernel
theorem dL_act_654 : decode cL_act 654 = .ok (.iconst 1, 1) := by decide +kernel
theorem dL_act_655 : decode cL_act 655 = .ok (.iload_n 3, 1) := by decide +kernel
theorem dL_act_656 : decode cL_act 656 = .ok (.sipush 240, 3) := by decide +kernel
theorem dL_act_659 : decode cL_act 659 = .ok (.idiv, 1) := by decide +kernel
theorem dL_act_660 : decode cL_act 660 = .ok (.iload 7, 2) := by decide +kernel
theorem dL_act_662 : decode cL_act 662 = .ok (.irem, 1) := by decide +kernel
theorem dL_act_663 : decode cL_act 663 = .ok (.iadd, 1) := by decide +kernel
theorem dL_act_664 : decode cL_act 664 = .ok (.istore 8, 2) := by decide +kernel
theorem dL_act_666 : decode cL_act 666 = .ok (.iload 8, 2) := by decide +kernel
theorem dL_act_668 : decode cL_act 668 = .ok (.sipush 9999, 3) := by decide +kernel
theorem dL_act_671 : decode cL_act 671 = .ok (.if_icmp .le 9, 3) := by decide +kernel
theorem dL_act_674 : decode cL_act 674 = .ok (.sipush 9999, 3) := by decide +kernel
theorem dL_act_677 : decode cL_act 677 = .ok (.goto 5, 3) := by decide +kernel
theorem dL_act_680 : decode cL_act 680 = .ok (.iload 8, 2) := by decide +kernel
theorem dL_act_682 : decode cL_act 682 = .ok (.istore 8, 2) := by decide +kernel
theorem dL_act_684 : decode cL_act 684 = .ok (.aload_n 0, 1) := by decide +kernel
theorem dL_act_685 : decode cL_act 685 = .ok (.bipush 12, 2) := by decide +kernel
theorem dL_act_687 : decode cL_act 687 = .ok (.invokevirtual 14, 3) := by decide +kernel
theorem dL_act_690 : decode cL_act 690 = .ok (.istore 9, 2) := by decide +kernel
theorem dL_act_692 : decode cL_act 692 = .ok (.aload_n 0, 1) := by decide +kernel
theorem dL_act_693 : decode cL_act 693 = .ok (.iload 6, 2) := by decide +kernel
theorem dL_act_695 : decode cL_act 695 = .ok (.iload 8, 2) := by decide +kernel
theorem dL_act_697 : decode cL_act 697 = .ok (.invokevirtual 48, 3) := by decide +kernel
theorem dL_act_700 : decode cL_act 700 = .ok (.istore 10, 2) := by decide +kernel
theorem dL_act_702 : decode cL_act 702 = .ok (.iload 7, 2) := by decide +kernel
theorem dL_act_704 : decode cL_act 704 = .ok (.iload 8, 2) := by decide +kernel
theorem dL_act_706 : decode cL_act 706 = .ok (.if_icmp .ge 19, 3) := by decide +kernel
theorem dL_act_709 : decode cL_act 709 = .ok (.iload 10, 2) := by decide +kernel
theorem dL_act_711 : decode cL_act 711 = .ok (.bipush (-5), 2) := by decide +kernel
theorem dL_act_713 : decode cL_act 713 = .ok (.if_icmp .ne 7, 3) := by decide +kernel
theorem dL_act_716 : decode cL_act 716 = .ok (.iconst 0, 1) := by decide +kernel
theorem dL_act_717 : decode cL_act 717 = .ok (.goto 50, 3) := by decide +kernel
theorem dL_act_720 : decode cL_act 720 = .ok (.bipush (-9), 2) := by decide +kernel
theorem dL_act_722 : decode cL_act 722 = .ok (.goto 45, 3) := by decide +kernel
theorem dL_act_725 : decode cL_act 725 = .ok (.iload 10, 2) := by decide +kernel
theorem dL_act_727 : decode cL_act 727 = .ok (.iload 7, 2) := by decide +kernel
theorem dL_act_729 : decode cL_act 729 = .ok (.iload 8, 2) := by decide +kernel
theorem dL_act_731 : decode cL_act 731 = .ok (.isub, 1) := by decide +kernel
theorem dL_act_732 : decode cL_act 732 = .ok (.if_icmp .ne 33, 3) := by decide +kernel
theorem dL_act_735 : decode cL_act 735 = .ok (.aload_n 0, 1) := by decide +kernel
theorem dL_act_736 : decode cL_act 736 = .ok (.iload 6, 2) := by decide +kernel
theorem dL_act_738 : decode cL_act 738 = .ok (.iconst 1, 1) := by decide +kernel
theorem dL_act_739 : decode cL_act 739 = .ok (.invokevirtual 20, 3) := by decide +kernel
theorem dL_act_742 : decode cL_act 742 = .ok (.iload 10, 2) := by decide +kernel
theorem dL_act_744 : decode cL_act 744 = .ok (.if_icmp .ne 21, 3) := by decide +kernel
theorem dL_act_747 : decode cL_act 747 = .ok (.aload_n 0, 1) := by decide +kernel
theorem dL_act_748 : decode cL_act 748 = .ok (.bipush 12, 2) := by decide +kernel
theorem dL_act_750 : decode cL_act 750 = .ok (.invokevirtual 14, 3) := by decide +kernel
theorem dL_act_753 : decode cL_act 753 = .ok (.iload 9, 2) := by decide +kernel
theorem dL_act_755 : decode cL_act 755 = .ok (.iload 8, 2) := by decide +kernel
theorem dL_act_757 : decode cL_act 757 = .ok (.iadd, 1) := by decide +kernel
theorem dL_act_758 : decode cL_act 758 = .ok (.if_icmp .ne 7, 3) := by decide +kernel
theorem dL_act_761 : decode cL_act 761 = .ok (.iconst 1, 1) := by decide +kernel
theorem dL_act_762 : decode cL_act 762 = .ok (.goto 5, 3) := by decide +kernel
theorem dL_act_765 : decode cL_act 765 = .ok (.bipush (-9), 2) := by decide +kernel
theorem dL_act_767 : decode cL_act 767 = .ok (.ireturn, 1) := by decide +kernel
theorem dL_act_768 : decode cL_act 768 = .ok (.iload_n 2, 1) := by decide +kernel
theorem dL_act_769 : decode cL_act 769 = .ok (.bipush 14, 2) := by decide +kernel
theorem dL_act_771 : decode cL_act 771 = .ok (.if_icmp .ne 55, 3) := by decide +kernel
theorem dL_act_774 : decode cL_act 774 = .ok (.aload_n 0, 1) := by decide +kernel
theorem dL_act_775 : decode cL_act 775 = .ok (.iload 5, 2) := by decide +kernel
theorem dL_act_777 : decode cL_act 777 = .ok (.iconst 1, 1) := by decide +kernel
theorem dL_act_778 : decode cL_act 778 = .ok (.invokevirtual 24, 3) := by decide +kernel
theorem dL_act_781 : decode cL_act 781 = .ok (.istore 7, 2) := by decide +kernel
theorem dL_act_783 : decode cL_act 783 = .ok (.iconst 1, 1) := by decide +kernel
theorem dL_act_784 : decode cL_act 784 = .ok (.iload_n 3, 1) := by decide +kernel
theorem dL_act_785 : decode cL_act 785 = .ok (.bipush 12, 2) := by decide +kernel
theorem dL_act_787 : decode cL_act 787 = .ok (.idiv, 1) := by decide +kernel
theorem dL_act_788 : decode cL_act 788 = .ok (.bipush 99, 2) := by decide +kernel
theorem dL_act_790 : decode cL_act 790 = .ok (.irem, 1) := by decide +kernel
theorem dL_act_791 : decode cL_act 791 = .ok (.iadd, 1) := by decide +kernel
theorem dL_act_792 : decode cL_act 792 = .ok (.istore 8, 2) := by decide +kernel
theorem dL_act_794 : decode cL_act 794 = .ok (.aload_n 0, 1) := by decide +kernel
theorem dL_act_795 : decode cL_act 795 = .ok (.iload 5, 2) := by decide +kernel
theorem dL_act_797 : decode cL_act 797 = .ok (.iload 8, 2) := by decide +kernel
theorem dL_act_799 : decode cL_act 799 = .ok (.invokevirtual 41, 3) := by decide +kernel
theorem dL_act_802 : decode cL_act 802 = .ok (.iload 7, 2) := by decide +kernel
theorem dL_act_804 : decode cL_act 804 = .ok (.if_icmp .ne 19, 3) := by decide +kernel
theorem dL_act_807 : decode cL_act 807 = .ok (.aload_n 0, 1) := by decide +kernel
theorem dL_act_808 : decode cL_act 808 = .ok (.iload 5, 2) := by decide +kernel
theorem dL_act_810 : decode cL_act 810 = .ok (.iconst 1, 1) := by decide +kernel
theorem dL_act_811 : decode cL_act 811 = .ok (.invokevirtual 24, 3) := by decide +kernel
theorem dL_act_814 : decode cL_act 814 = .ok (.iload 8, 2) := by decide +kernel
theorem dL_act_816 : decode cL_act 816 = .ok (.if_icmp .ne 7, 3) := by decide +kernel
theorem dL_act_819 : decode cL_act 819 = .ok (.iconst 1, 1) := by decide +kernel
theorem dL_act_820 : decode cL_act 820 = .ok (.goto 5, 3) := by decide +kernel
theorem dL_act_823 : decode cL_act 823 = .ok (.bipush (-9), 2) := by decide +kernel
theorem dL_act_825 : decode cL_act 825 = .ok (.ireturn, 1) := by decide +kernel
theorem dL_act_826 : decode cL_act 826 = .ok (.iload_n 3, 1) := by decide +kernel
theorem dL_act_827 : decode cL_act 827 = .ok (.iconst 5, 1) := by decide +kernel
theorem dL_act_828 : decode cL_act 828 = .ok (.irem, 1) := by decide +kernel
theorem dL_act_829 : decode cL_act 829 = .ok (.istore 7, 2) := by decide +kernel
theorem dL_act_831 : decode cL_act 831 = .ok (.iload_n 3, 1) := by decide +kernel
theorem dL_act_832 : decode cL_act 832 = .ok (.iconst 5, 1) := by decide +kernel
theorem dL_act_833 : decode cL_act 833 = .ok (.idiv, 1) := by decide +kernel
theorem dL_act_834 : decode cL_act 834 = .ok (.istore 8, 2) := by decide +kernel
theorem dL_act_836 : decode cL_act 836 = .ok (.iload 7, 2) := by decide +kernel
theorem dL_act_838 : decode cL_act 838 = .ok (.ifCond .ne 13, 3) := by decide +kernel
theorem dL_act_841 : decode cL_act 841 = .ok (.iconst 1, 1) := by decide +kernel
theorem dL_act_842 : decode cL_act 842 = .ok (.iload 8, 2) := by decide +kernel
theorem dL_act_844 : decode cL_act 844 = .ok (.bipush 60, 2) := by decide +kernel
theorem dL_act_846 : decode cL_act 846 = .ok (.irem, 1) := by decide +kernel
theorem dL_act_847 : decode cL_act 847 = .ok (.iadd, 1) := by decide +kernel
theorem dL_act_848 : decode cL_act 848 = .ok (.goto 54, 3) := by decide +kernel
theorem dL_act_851 : decode cL_act 851 = .ok (.iload 7, 2) := by decide +kernel
theorem dL_act_853 : decode cL_act 853 = .ok (.iconst 1, 1) := by decide +kernel
theorem dL_act_854 : decode cL_act 854 = .ok (.if_icmp .ne 11, 3) := by decide +kernel
theorem dL_act_857 : decode cL_act 857 = .ok (.iload 8, 2) := by decide +kernel
theorem dL_act_859 : decode cL_act 859 = .ok (.bipush 31, 2) := by decide +kernel
theorem dL_act_861 : decode cL_act 861 = .ok (.irem, 1) := by decide +kernel
theorem dL_act_862 : decode cL_act 862 = .ok (.goto 40, 3) := by decide +kernel
theorem dL_act_865 : decode cL_act 865 = .ok (.iload 7, 2) := by decide +kernel
theorem dL_act_867 : decode cL_act 867 = .ok (.iconst 2, 1) := by decide +kernel
theorem dL_act_868 : decode cL_act 868 = .ok (.if_icmp .ne 13, 3) := by decide +kernel
theorem dL_act_871 : decode cL_act 871 = .ok (.iconst 1, 1) := by decide +kernel
theorem dL_act_872 : decode cL_act 872 = .ok (.iload 8, 2) := by decide +kernel
theorem dL_act_874 : decode cL_act 874 = .ok (.bipush 9, 2) := by decide +kernel
theorem dL_act_876 : decode cL_act 876 = .ok (.irem, 1) := by decide +kernel
theorem dL_act_877 : decode cL_act 877 = .ok (.iadd, 1) := by decide +kernel
theorem dL_act_878 : decode cL_act 878 = .ok (.goto 24, 3) := by decide +kernel
theorem dL_act_881 : decode cL_act 881 = .ok (.iload 7, 2) := by decide +kernel
theorem dL_act_883 : decode cL_act 883 = .ok (.iconst 3, 1) := by decide +kernel
theorem dL_act_884 : decode cL_act 884 = .ok (.if_icmp .ne 13, 3) := by decide +kernel
theorem dL_act_887 : decode cL_act 887 = .ok (.iconst 1, 1) := by decide +kernel
theorem dL_act_888 : decode cL_act 888 = .ok (.iload 8, 2) := by decide +kernel
theorem dL_act_890 : decode cL_act 890 = .ok (.bipush 60, 2) := by decide +kernel
theorem dL_act_892 : decode cL_act 892 = .ok (.irem, 1) := by decide +kernel
theorem dL_act_893 : decode cL_act 893 = .ok (.iadd, 1) := by decide +kernel
theorem dL_act_894 : decode cL_act 894 = .ok (.goto 8, 3) := by decide +kernel
theorem dL_act_897 : decode cL_act 897 = .ok (.iload 8, 2) := by decide +kernel
theorem dL_act_899 : decode cL_act 899 = .ok (.bipush 10, 2) := by decide +kernel
theorem dL_act_901 : decode cL_act 901 = .ok (.irem, 1) := by decide +kernel
theorem dL_act_902 : decode cL_act 902 = .ok (.istore 9, 2) := by decide +kernel
theorem dL_act_904 : decode cL_act 904 = .ok (.aload_n 0, 1) := by decide +kernel
theorem dL_act_905 : decode cL_act 905 = .ok (.iload 7, 2) := by decide +kernel
theorem dL_act_907 : decode cL_act 907 = .ok (.invokevirtual 14, 3) := by decide +kernel
theorem dL_act_910 : decode cL_act 910 = .ok (.istore 10, 2) := by decide +kernel
theorem dL_act_912 : decode cL_act 912 = .ok (.aload_n 0, 1) := by decide +kernel
theorem dL_act_913 : decode cL_act 913 = .ok (.iload 7, 2) := by decide +kernel
theorem dL_act_915 : decode cL_act 915 = .ok (.iload 9, 2) := by decide +kernel
theorem dL_act_917 : decode cL_act 917 = .ok (.invokevirtual 35, 3) := by decide +kernel
theorem dL_act_920 : decode cL_act 920 = .ok (.iload 10, 2) := by decide +kernel
theorem dL_act_922 : decode cL_act 922 = .ok (.if_icmp .ne 18, 3) := by decide +kernel
theorem dL_act_925 : decode cL_act 925 = .ok (.aload_n 0, 1) := by decide +kernel
theorem dL_act_926 : decode cL_act 926 = .ok (.iload 7, 2) := by decide +kernel
theorem dL_act_928 : decode cL_act 928 = .ok (.invokevirtual 14, 3) := by decide +kernel
theorem dL_act_931 : decode cL_act 931 = .ok (.iload 9, 2) := by decide +kernel
theorem dL_act_933 : decode cL_act 933 = .ok (.if_icmp .ne 7, 3) := by decide +kernel
theorem dL_act_936 : decode cL_act 936 = .ok (.iconst 1, 1) := by decide +kernel
theorem dL_act_937 : decode cL_act 937 = .ok (.goto 5, 3) := by decide +kernel
theorem dL_act_940 : decode cL_act 940 = .ok (.bipush (-9), 2) := by decide +kernel
theorem dL_act_942 : decode cL_act 942 = .ok (.ireturn, 1) := by decide +kernel
