theorem dL_cell_0 : decode cL_cell 0 = .ok (.iload_n 1, 1) := by decide +kernel
theorem dL_cell_1 : decode cL_cell 1 = .ok (.aload_n 0, 1) := by decide +kernel
theorem dL_cell_2 : decode cL_cell 2 = .ok (.arraylength, 1) := by decide +kernel
theorem dL_cell_3 : decode cL_cell 3 = .ok (.if_icmp .ge 9, 3) := by decide +kernel
theorem dL_cell_6 : decode cL_cell 6 = .ok (.aload_n 0, 1) := by decide +kernel
theorem dL_cell_7 : decode cL_cell 7 = .ok (.iload_n 1, 1) := by decide +kernel
theorem dL_cell_8 : decode cL_cell 8 = .ok (.iaload, 1) := by decide +kernel
theorem dL_cell_9 : decode cL_cell 9 = .ok (.goto 14, 3) := by decide +kernel
theorem dL_cell_12 : decode cL_cell 12 = .ok (.ldc 7, 2) := by decide +kernel
theorem dL_cell_14 : decode cL_cell 14 = .ok (.iload_n 1, 1) := by decide +kernel
theorem dL_cell_15 : decode cL_cell 15 = .ok (.sipush 439, 3) := by decide +kernel
theorem dL_cell_18 : decode cL_cell 18 = .ok (.iadd, 1) := by decide +kernel
theorem dL_cell_19 : decode cL_cell 19 = .ok (.imul, 1) := by decide +kernel
theorem dL_cell_20 : decode cL_cell 20 = .ok (.ldc 8, 2) := by decide +kernel
theorem dL_cell_22 : decode cL_cell 22 = .ok (.iadd, 1) := by decide +kernel
theorem dL_cell_23 : decode cL_cell 23 = .ok (.ldc 9, 2) := by decide +kernel
theorem dL_cell_25 : decode cL_cell 25 = .ok (.iand, 1) := by decide +kernel
theorem dL_cell_26 : decode cL_cell 26 = .ok (.ireturn, 1) := by decide +kernel
theorem dL_size_0 : decode cL_size 0 = .ok (.iconst 0, 1) := by decide +kernel
theorem dL_size_1 : decode cL_size 1 = .ok (.istore_n 1, 1) := by decide +kernel
theorem dL_size_2 : decode cL_size 2 = .ok (.iload_n 0, 1) := by decide +kernel
theorem dL_size_3 : decode cL_size 3 = .ok (.istore_n 2, 1) := by decide +kernel
theorem dL_size_4 : decode cL_size 4 = .ok (.iload_n 2, 1) := by decide +kernel
theorem dL_size_5 : decode cL_size 5 = .ok (.ifCond .eq 15, 3) := by decide +kernel
theorem dL_size_8 : decode cL_size 8 = .ok (.iinc 1 1, 3) := by decide +kernel
theorem dL_size_11 : decode cL_size 11 = .ok (.iload_n 2, 1) := by decide +kernel
theorem dL_size_12 : decode cL_size 12 = .ok (.iload_n 2, 1) := by decide +kernel
theorem dL_size_13 : decode cL_size 13 = .ok (.iconst 1, 1) := by decide +kernel
theorem dL_size_14 : decode cL_size 14 = .ok (.isub, 1) := by decide +kernel
theorem dL_size_15 : decode cL_size 15 = .ok (.iand, 1) := by decide +kernel
theorem dL_size_16 : decode cL_size 16 = .ok (.istore_n 2, 1) := by decide +kernel
theorem dL_size_17 : decode cL_size 17 = .ok (.goto (-13), 3) := by decide +kernel
theorem dL_size_20 : decode cL_size 20 = .ok (.iload_n 1, 1) := by decide +kernel
theorem dL_size_21 : decode cL_size 21 = .ok (.ireturn, 1) := by decide +kernel
set_option maxRecDepth 20000 in
theorem ggL_seen_X4_count : GoodIn wsL_seen wsX4_count := goodIn_r _ [7, 8, 9, 10, 11, 12, 13, 14, 15, 16, 17, 18, 19, 20, 21, 22, 23, 24, 6, 25, 26, 27, 28, 29, 30, 31, 32, 33, 34, 35, 36, 37, 38, 39, 40, 41, 42, 43, 44, 45, 46, 47, 48, 49, 50, 51, 52, 53, 54, 55, 56, 57, 58, 98, 99, 100, 101, 102, 103, 104, 105, 106, 107, 108, 109, 110, 111, 112, 113, 114, 115, 116, 117, 118, 119, 120, 121, 122, 123] (by decide +kernel) (by decide +kernel)
set_option maxRecDepth 20000 in
theorem gL_seen_X4_count : GoodIn wsL_seen (wsV RL 14 RX4 yX4_count wsX4_count) := goodIn_app (goodIn_of _ (by decide +kernel)) ggL_seen_X4_count
set_option maxRecDepth 20000 in
theorem ggL_seen_X4_pupil : GoodIn wsL_seen wsX4_pupil := goodIn_r _ [62, 9, 17, 14, 12, 63, 64, 18, 15, 65, 66, 6, 67, 23, 24, 25, 68, 69, 70, 32, 71, 72, 73, 74, 75, 52, 76, 53, 54, 98, 99, 100, 101, 102, 103, 104, 105, 106, 107, 108, 109, 110, 111, 112, 113, 114, 115, 116, 117, 118] (by decide +kernel) (by decide +kernel)
set_option maxRecDepth 20000 in
theorem gL_seen_X4_pupil : GoodIn wsL_seen (wsV RL 20 RX4 yX4_pupil wsX4_pupil) := goodIn_app (goodIn_of _ (by decide +kernel)) ggL_seen_X4_pupil
set_option maxRecDepth 20000 in
theorem ggL_seen_X4_excuse : GoodIn wsL_seen wsX4_excuse := goodIn_r _ [80, 9, 81, 82, 83, 84, 85, 86, 32, 87, 34, 88, 49, 50, 51, 52, 89, 90, 91, 92, 72, 73, 74, 75, 98, 99, 100, 101, 102, 103, 104, 105, 106, 107, 108, 109, 110, 111, 112, 113, 114, 115, 116, 117, 118] (by decide +kernel) (by decide +kernel)
set_option maxRecDepth 20000 in
theorem gL_seen_X4_excuse : GoodIn wsL_seen (wsV RL 24 RX4 yX4_excuse wsX4_excuse) := goodIn_app (goodIn_of _ (by decide +kernel)) ggL_seen_X4_excuse
set_option maxRecDepth 20000 in
theorem ggL_seen_X4_novelty : GoodIn wsL_seen wsX4_novelty := goodIn_r _ [96, 9, 65, 66, 6, 67, 23, 24, 25, 84, 85, 86, 32, 87, 34, 97, 40, 41, 42, 43, 44, 45, 46, 47, 48, 49, 50, 51, 52, 53, 54, 55, 56, 57, 58, 98, 99, 100, 101, 102, 103, 104, 105, 106, 107, 108, 109, 110, 111, 112, 113, 114, 115, 116, 117, 118] (by decide +kernel) (by decide +kernel)
set_option maxRecDepth 20000 in
theorem gL_seen_X4_novelty : GoodIn wsL_seen (wsV RL 27 RX4 yX4_novelty wsX4_novelty) := goodIn_app (goodIn_of _ (by decide +kernel)) ggL_seen_X4_novelty
theorem dL_seen_0 : decode cL_seen 0 = .ok (.ldc2_w 10, 3) := by decide +kernel
theorem dL_seen_3 : decode cL_seen 3 = .ok (.lstore_n 1, 1) := by decide +kernel
theorem dL_seen_4 : decode cL_seen 4 = .ok (.iconst 0, 1) := by decide +kernel
theorem dL_seen_5 : decode cL_seen 5 = .ok (.istore_n 3, 1) := by decide +kernel
theorem dL_seen_6 : decode cL_seen 6 = .ok (.iload_n 3, 1) := by decide +kernel
theorem dL_seen_7 : decode cL_seen 7 = .ok (.bipush 18, 2) := by decide +kernel
theorem dL_seen_9 : decode cL_seen 9 = .ok (.if_icmp .ge 22, 3) := by decide +kernel
theorem dL_seen_12 : decode cL_seen 12 = .ok (.ldc2_w 12, 3) := by decide +kernel
theorem dL_seen_15 : decode cL_seen 15 = .ok (.lload_n 1, 1) := by decide +kernel
theorem dL_seen_16 : decode cL_seen 16 = .ok (.lmul, 1) := by decide +kernel
theorem dL_seen_17 : decode cL_seen 17 = .ok (.aload_n 0, 1) := by decide +kernel
theorem dL_seen_18 : decode cL_seen 18 = .ok (.iload_n 3, 1) := by decide +kernel
theorem dL_seen_19 : decode cL_seen 19 = .ok (.invokevirtual 14, 3) := by decide +kernel
theorem dL_seen_22 : decode cL_seen 22 = .ok (.i2l, 1) := by decide +kernel
theorem dL_seen_23 : decode cL_seen 23 = .ok (.ladd, 1) := by decide +kernel
theorem dL_seen_24 : decode cL_seen 24 = .ok (.lstore_n 1, 1) := by decide +kernel
theorem dL_seen_25 : decode cL_seen 25 = .ok (.iinc 3 1, 3) := by decide +kernel
theorem dL_seen_28 : decode cL_seen 28 = .ok (.goto (-22), 3) := by decide +kernel
theorem dL_seen_31 : decode cL_seen 31 = .ok (.iconst 0, 1) := by decide +kernel
theorem dL_seen_32 : decode cL_seen 32 = .ok (.istore_n 3, 1) := by decide +kernel
theorem dL_seen_33 : decode cL_seen 33 = .ok (.iload_n 3, 1) := by decide +kernel
theorem dL_seen_34 : decode cL_seen 34 = .ok (.bipush 80, 2) := by decide +kernel
theorem dL_seen_36 : decode cL_seen 36 = .ok (.if_icmp .ge 46, 3) := by decide +kernel
theorem dL_seen_39 : decode cL_seen 39 = .ok (.ldc2_w 12, 3) := by decide +kernel
theorem dL_seen_42 : decode cL_seen 42 = .ok (.ldc2_w 12, 3) := by decide +kernel
theorem dL_seen_45 : decode cL_seen 45 = .ok (.lload_n 1, 1) := by decide +kernel
theorem dL_seen_46 : decode cL_seen 46 = .ok (.lmul, 1) := by decide +kernel
theorem dL_seen_47 : decode cL_seen 47 = .ok (.aload_n 0, 1) := by decide +kernel
theorem dL_seen_48 : decode cL_seen 48 = .ok (.iload_n 3, 1) := by decide +kernel
theorem dL_seen_49 : decode cL_seen 49 = .ok (.bipush 8, 2) := by decide +kernel
theorem dL_seen_51 : decode cL_seen 51 = .ok (.idiv, 1) := by decide +kernel
theorem dL_seen_52 : decode cL_seen 52 = .ok (.iload_n 3, 1) := by decide +kernel
theorem dL_seen_53 : decode cL_seen 53 = .ok (.bipush 8, 2) := by decide +kernel
theorem dL_seen_55 : decode cL_seen 55 = .ok (.irem, 1) := by decide +kernel
theorem dL_seen_56 : decode cL_seen 56 = .ok (.invokevirtual 20, 3) := by decide +kernel
theorem dL_seen_59 : decode cL_seen 59 = .ok (.i2l, 1) := by decide +kernel
theorem dL_seen_60 : decode cL_seen 60 = .ok (.ladd, 1) := by decide +kernel
theorem dL_seen_61 : decode cL_seen 61 = .ok (.lmul, 1) := by decide +kernel
theorem dL_seen_62 : decode cL_seen 62 = .ok (.aload_n 0, 1) := by decide +kernel
theorem dL_seen_63 : decode cL_seen 63 = .ok (.iload_n 3, 1) := by decide +kernel
theorem dL_seen_64 : decode cL_seen 64 = .ok (.bipush 6, 2) := by decide +kernel
theorem dL_seen_66 : decode cL_seen 66 = .ok (.idiv, 1) := by decide +kernel
theorem dL_seen_67 : decode cL_seen 67 = .ok (.iload_n 3, 1) := by decide +kernel
theorem dL_seen_68 : decode cL_seen 68 = .ok (.iconst 5, 1) := by decide +kernel
theorem dL_seen_69 : decode cL_seen 69 = .ok (.irem, 1) := by decide +kernel
theorem dL_seen_70 : decode cL_seen 70 = .ok (.invokevirtual 24, 3) := by decide +kernel
theorem dL_seen_73 : decode cL_seen 73 = .ok (.i2l, 1) := by decide +kernel
theorem dL_seen_74 : decode cL_seen 74 = .ok (.ladd, 1) := by decide +kernel
theorem dL_seen_75 : decode cL_seen 75 = .ok (.lstore_n 1, 1) := by decide +kernel
theorem dL_seen_76 : decode cL_seen 76 = .ok (.iinc 3 1, 3) := by decide +kernel
theorem dL_seen_79 : decode cL_seen 79 = .ok (.goto (-46), 3) := by decide +kernel
theorem dL_seen_82 : decode cL_seen 82 = .ok (.iconst 0, 1) := by decide +kernel
theorem dL_seen_83 : decode cL_seen 83 = .ok (.istore_n 3, 1) := by decide +kernel
theorem dL_seen_84 : decode cL_seen 84 = .ok (.iload_n 3, 1) := by decide +kernel
theorem dL_seen_85 : decode cL_seen 85 = .ok (.bipush 60, 2) := by decide +kernel
theorem dL_seen_87 : decode cL_seen 87 = .ok (.if_icmp .ge 44, 3) := by decide +kernel
theorem dL_seen_90 : decode cL_seen 90 = .ok (.ldc2_w 12, 3) := by decide +kernel
theorem dL_seen_93 : decode cL_seen 93 = .ok (.ldc2_w 12, 3) := by decide +kernel
theorem dL_seen_96 : decode cL_seen 96 = .ok (.lload_n 1, 1) := by decide +kernel
theorem dL_seen_97 : decode cL_seen 97 = .ok (.lmul, 1) := by decide +kernel
theorem dL_seen_98 : decode cL_seen 98 = .ok (.aload_n 0, 1) := by decide +kernel
theorem dL_seen_99 : decode cL_seen 99 = .ok (.iload_n 3, 1) := by decide +kernel
theorem dL_seen_100 : decode cL_seen 100 = .ok (.iconst 5, 1) := by decide +kernel
theorem dL_seen_101 : decode cL_seen 101 = .ok (.idiv, 1) := by decide +kernel
theorem dL_seen_102 : decode cL_seen 102 = .ok (.iload_n 3, 1) := by decide +kernel
theorem dL_seen_103 : decode cL_seen 103 = .ok (.iconst 5, 1) := by decide +kernel
theorem dL_seen_104 : decode cL_seen 104 = .ok (.irem, 1) := by decide +kernel
theorem dL_seen_105 : decode cL_seen 105 = .ok (.invokevirtual 24, 3) := by decide +kernel
theorem dL_seen_108 : decode cL_seen 108 = .ok (.i2l, 1) := by decide +kernel
theorem dL_seen_109 : decode cL_seen 109 = .ok (.ladd, 1) := by decide +kernel
theorem dL_seen_110 : decode cL_seen 110 = .ok (.lmul, 1) := by decide +kernel
theorem dL_seen_111 : decode cL_seen 111 = .ok (.aload_n 0, 1) := by decide +kernel
theorem dL_seen_112 : decode cL_seen 112 = .ok (.iload_n 3, 1) := by decide +kernel
theorem dL_seen_113 : decode cL_seen 113 = .ok (.bipush 10, 2) := by decide +kernel
theorem dL_seen_115 : decode cL_seen 115 = .ok (.irem, 1) := by decide +kernel
theorem dL_seen_116 : decode cL_seen 116 = .ok (.iload_n 3, 1) := by decide +kernel
theorem dL_seen_117 : decode cL_seen 117 = .ok (.iconst 5, 1) := by decide +kernel
theorem dL_seen_118 : decode cL_seen 118 = .ok (.idiv, 1) := by decide +kernel
theorem dL_seen_119 : decode cL_seen 119 = .ok (.invokevirtual 27, 3) := by decide +kernel
theorem dL_seen_122 : decode cL_seen 122 = .ok (.i2l, 1) := by decide +kernel
theorem dL_seen_123 : decode cL_seen 123 = .ok (.ladd, 1) := by decide +kernel
theorem dL_seen_124 : decode cL_seen 124 = .ok (.lstore_n 1, 1) := by decide +kernel
theorem dL_seen_125 : decode cL_seen 125 = .ok (.iinc 3 1, 3) := by decide +kernel
theorem dL_seen_128 : decode cL_seen 128 = .ok (.goto (-44), 3) := by decide +kernel
theorem dL_seen_131 : decode cL_seen 131 = .ok (.lload_n 1, 1) := by decide +kernel
theorem dL_seen_132 : decode cL_seen 132 = .ok (.lreturn, 1) := by decide +kernel
set_option maxRecDepth 20000 in
theorem ggL_arePupils_X4_pupil : GoodIn wsL_arePupils wsX4_pupil := goodIn_r _ [5, 6, 7, 8, 9, 10, 11, 12, 13, 14, 15, 4, 16, 17, 18, 19, 20, 21, 22, 23, 24, 25, 26, 27, 28, 29, 30, 31, 32, 100, 101, 102, 103, 104, 105, 106, 107, 108, 109, 110, 111, 112, 113, 114, 115, 116, 117, 118, 119, 120] (by decide +kernel) (by decide +kernel)
set_option maxRecDepth 20000 in
theorem gL_arePupils_X4_pupil : GoodIn wsL_arePupils (wsV RL 20 RX4 yX4_pupil wsX4_pupil) := goodIn_app (goodIn_of _ (by decide +kernel)) ggL_arePupils_X4_pupil
set_option maxRecDepth 20000 in
theorem ggL_arePupils_X4_count : GoodIn wsL_arePupils wsX4_count := goodIn_r _ [36, 37, 6, 38, 39, 9, 40, 8, 13, 41, 7, 12, 42, 43, 44, 45, 17, 18, 4, 19, 46, 47, 48, 49, 50, 51, 23, 52, 53, 54, 55, 56, 57, 58, 59, 60, 61, 62, 63, 64, 65, 66, 67, 68, 69, 70, 29, 31, 32, 71, 72, 73, 74, 100, 101, 102, 103, 104, 105, 106, 107, 108, 109, 110, 111, 112, 113, 114, 115, 116, 117, 118, 119, 120, 121, 122, 123, 124, 125] (by decide +kernel) (by decide +kernel)
set_option maxRecDepth 20000 in
theorem gL_arePupils_X4_count : GoodIn wsL_arePupils (wsV RL 14 RX4 yX4_count wsX4_count) := goodIn_app (goodIn_of _ (by decide +kernel)) ggL_arePupils_X4_count
set_option maxRecDepth 20000 in
theorem ggL_arePupils_X4_excuse : GoodIn wsL_arePupils wsX4_excuse := goodIn_r _ [78, 6, 79, 80, 81, 82, 83, 84, 23, 85, 53, 86, 68, 69, 70, 29, 87, 88, 89, 90, 25, 26, 27, 28, 100, 101, 102, 103, 104, 105, 106, 107, 108, 109, 110, 111, 112, 113, 114, 115, 116, 117, 118, 119, 120] (by decide +kernel) (by decide +kernel)
set_option maxRecDepth 20000 in
theorem gL_arePupils_X4_excuse : GoodIn wsL_arePupils (wsV RL 24 RX4 yX4_excuse wsX4_excuse) := goodIn_app (goodIn_of _ (by decide +kernel)) ggL_arePupils_X4_excuse
set_option maxRecDepth 20000 in
theorem ggL_arePupils_X4_novelty : GoodIn wsL_arePupils wsX4_novelty := goodIn_r _ [94, 6, 14, 15, 4, 16, 17, 18, 19, 82, 83, 84, 23, 85, 53, 95, 59, 60, 61, 62, 63, 64, 65, 66, 67, 68, 69, 70, 29, 31, 32, 71, 72, 73, 74, 100, 101, 102, 103, 104, 105, 106, 107, 108, 109, 110, 111, 112, 113, 114, 115, 116, 117, 118, 119, 120] (by decide +kernel) (by decide +kernel)
set_option maxRecDepth 20000 in
theorem gL_arePupils_X4_novelty : GoodIn wsL_arePupils (wsV RL 27 RX4 yX4_novelty wsX4_novelty) := goodIn_app (goodIn_of _ (by decide +kernel)) ggL_arePupils_X4_novelty
set_option maxRecDepth 20000 in
theorem ggL_arePupils_L_size : GoodIn wsL_arePupils wsL_size := goodIn_r _ [99] (by decide +kernel) (by decide +kernel)
set_option maxRecDepth 20000 in
theorem gL_arePupils_L_size : GoodIn wsL_arePupils (va_wsS RL 32 yL_size wsL_size) := goodIn_app (goodIn_of _ (by decide +kernel)) ggL_arePupils_L_size
theorem dL_arePupils_0 : decode cL_arePupils 0 = .ok (.iconst 0, 1) := by decide +kernel
theorem dL_arePupils_1 : decode cL_arePupils 1 = .ok (.istore_n 1, 1) := by decide +kernel
theorem dL_arePupils_2 : decode cL_arePupils 2 = .ok (.iconst 0, 1) := by decide +kernel
theorem dL_arePupils_3 : decode cL_arePupils 3 = .ok (.istore_n 2, 1) := by decide +kernel
theorem dL_arePupils_4 : decode cL_arePupils 4 = .ok (.iconst 0, 1) := by decide +kernel
theorem dL_arePupils_5 : decode cL_arePupils 5 = .ok (.istore_n 3, 1) := by decide +kernel
theorem dL_arePupils_6 : decode cL_arePupils 6 = .ok (.iconst 0, 1) := by decide +kernel
theorem dL_arePupils_7 : decode cL_arePupils 7 = .ok (.istore 4, 2) := by decide +kernel
theorem dL_arePupils_9 : decode cL_arePupils 9 = .ok (.iconst 0, 1) := by decide +kernel
theorem dL_arePupils_10 : decode cL_arePupils 10 = .ok (.istore 5, 2) := by decide +kernel
theorem dL_arePupils_12 : decode cL_arePupils 12 = .ok (.iconst 0, 1) := by decide +kernel
theorem dL_arePupils_13 : decode cL_arePupils 13 = .ok (.istore 6, 2) := by decide +kernel
theorem dL_arePupils_15 : decode cL_arePupils 15 = .ok (.iconst 0, 1) := by decide +kernel
theorem dL_arePupils_16 : decode cL_arePupils 16 = .ok (.istore 7, 2) := by decide +kernel
theorem dL_arePupils_18 : decode cL_arePupils 18 = .ok (.iconst 1, 1) := by decide +kernel
theorem dL_arePupils_19 : decode cL_arePupils 19 = .ok (.istore 8, 2) := by decide +kernel
theorem dL_arePupils_21 : decode cL_arePupils 21 = .ok (.iconst 0, 1) := by decide +kernel
theorem dL_arePupils_22 : decode cL_arePupils 22 = .ok (.istore 9, 2) := by decide +kernel
theorem dL_arePupils_24 : decode cL_arePupils 24 = .ok (.iload 9, 2) := by decide +kernel
theorem dL_arePupils_26 : decode cL_arePupils 26 = .ok (.bipush 10, 2) := by decide +kernel
theorem dL_arePupils_28 : decode cL_arePupils 28 = .ok (.if_icmp .ge 293, 3) := by decide +kernel
theorem dL_arePupils_31 : decode cL_arePupils 31 = .ok (.iload 8, 2) := by decide +kernel
theorem dL_arePupils_33 : decode cL_arePupils 33 = .ok (.ifCond .eq 288, 3) := by decide +kernel
theorem dL_arePupils_36 : decode cL_arePupils 36 = .ok (.aload_n 0, 1) := by decide +kernel
theorem dL_arePupils_37 : decode cL_arePupils 37 = .ok (.iload 9, 2) := by decide +kernel
theorem dL_arePupils_39 : decode cL_arePupils 39 = .ok (.iconst 4, 1) := by decide +kernel
theorem dL_arePupils_40 : decode cL_arePupils 40 = .ok (.invokevirtual 20, 3) := by decide +kernel
theorem dL_arePupils_43 : decode cL_arePupils 43 = .ok (.istore 10, 2) := by decide +kernel
theorem dL_arePupils_45 : decode cL_arePupils 45 = .ok (.iload_n 1, 1) := by decide +kernel
theorem dL_arePupils_46 : decode cL_arePupils 46 = .ok (.aload_n 0, 1) := by decide +kernel
theorem dL_arePupils_47 : decode cL_arePupils 47 = .ok (.iload 9, 2) := by decide +kernel
theorem dL_arePupils_49 : decode cL_arePupils 49 = .ok (.iconst 1, 1) := by decide +kernel
theorem dL_arePupils_50 : decode cL_arePupils 50 = .ok (.invokevirtual 20, 3) := by decide +kernel
theorem dL_arePupils_53 : decode cL_arePupils 53 = .ok (.iadd, 1) := by decide +kernel
theorem dL_arePupils_54 : decode cL_arePupils 54 = .ok (.istore_n 1, 1) := by decide +kernel
theorem dL_arePupils_55 : decode cL_arePupils 55 = .ok (.iload_n 2, 1) := by decide +kernel
theorem dL_arePupils_56 : decode cL_arePupils 56 = .ok (.aload_n 0, 1) := by decide +kernel
theorem dL_arePupils_57 : decode cL_arePupils 57 = .ok (.iload 9, 2) := by decide +kernel
theorem dL_arePupils_59 : decode cL_arePupils 59 = .ok (.bipush 7, 2) := by decide +kernel
theorem dL_arePupils_61 : decode cL_arePupils 61 = .ok (.invokevirtual 20, 3) := by decide +kernel
theorem dL_arePupils_64 : decode cL_arePupils 64 = .ok (.iadd, 1) := by decide +kernel
theorem dL_arePupils_65 : decode cL_arePupils 65 = .ok (.istore_n 2, 1) := by decide +kernel
theorem dL_arePupils_66 : decode cL_arePupils 66 = .ok (.iload_n 3, 1) := by decide +kernel
theorem dL_arePupils_67 : decode cL_arePupils 67 = .ok (.aload_n 0, 1) := by decide +kernel
theorem dL_arePupils_68 : decode cL_arePupils 68 = .ok (.iload 9, 2) := by decide +kernel
theorem dL_arePupils_70 : decode cL_arePupils 70 = .ok (.iconst 0, 1) := by decide +kernel
theorem dL_arePupils_71 : decode cL_arePupils 71 = .ok (.invokevirtual 20, 3) := by decide +kernel
theorem dL_arePupils_74 : decode cL_arePupils 74 = .ok (.iadd, 1) := by decide +kernel
theorem dL_arePupils_75 : decode cL_arePupils 75 = .ok (.istore_n 3, 1) := by decide +kernel
theorem dL_arePupils_76 : decode cL_arePupils 76 = .ok (.iload 4, 2) := by decide +kernel
theorem dL_arePupils_78 : decode cL_arePupils 78 = .ok (.iload 9, 2) := by decide +kernel
theorem dL_arePupils_80 : decode cL_arePupils 80 = .ok (.iconst 2, 1) := by decide +kernel
theorem dL_arePupils_81 : decode cL_arePupils 81 = .ok (.irem, 1) := by decide +kernel
theorem dL_arePupils_82 : decode cL_arePupils 82 = .ok (.ifCond .ne 14, 3) := by decide +kernel
theorem dL_arePupils_85 : decode cL_arePupils 85 = .ok (.aload_n 0, 1) := by decide +kernel
theorem dL_arePupils_86 : decode cL_arePupils 86 = .ok (.iload 9, 2) := by decide +kernel
theorem dL_arePupils_88 : decode cL_arePupils 88 = .ok (.bipush 6, 2) := by decide +kernel
theorem dL_arePupils_90 : decode cL_arePupils 90 = .ok (.invokevirtual 20, 3) := by decide +kernel
theorem dL_arePupils_93 : decode cL_arePupils 93 = .ok (.goto 4, 3) := by decide +kernel
theorem dL_arePupils_96 : decode cL_arePupils 96 = .ok (.iconst 0, 1) := by decide +kernel
theorem dL_arePupils_97 : decode cL_arePupils 97 = .ok (.iadd, 1) := by decide +kernel
theorem dL_arePupils_98 : decode cL_arePupils 98 = .ok (.istore 4, 2) := by decide +kernel
theorem dL_arePupils_100 : decode cL_arePupils 100 = .ok (.iload 5, 2) := by decide +kernel
theorem dL_arePupils_102 : decode cL_arePupils 102 = .ok (.aload_n 0, 1) := by decide +kernel
theorem dL_arePupils_103 : decode cL_arePupils 103 = .ok (.iload 9, 2) := by decide +kernel
theorem dL_arePupils_105 : decode cL_arePupils 105 = .ok (.iconst 2, 1) := by decide +kernel
theorem dL_arePupils_106 : decode cL_arePupils 106 = .ok (.invokevirtual 20, 3) := by decide +kernel
theorem dL_arePupils_109 : decode cL_arePupils 109 = .ok (.iadd, 1) := by decide +kernel
theorem dL_arePupils_110 : decode cL_arePupils 110 = .ok (.istore 5, 2) := by decide +kernel
theorem dL_arePupils_112 : decode cL_arePupils 112 = .ok (.iload 6, 2) := by decide +kernel
theorem dL_arePupils_114 : decode cL_arePupils 114 = .ok (.aload_n 0, 1) := by decide +kernel
theorem dL_arePupils_115 : decode cL_arePupils 115 = .ok (.iload 9, 2) := by decide +kernel
theorem dL_arePupils_117 : decode cL_arePupils 117 = .ok (.iconst 3, 1) := by decide +kernel
theorem dL_arePupils_118 : decode cL_arePupils 118 = .ok (.invokevirtual 20, 3) := by decide +kernel
theorem dL_arePupils_121 : decode cL_arePupils 121 = .ok (.iadd, 1) := by decide +kernel
theorem dL_arePupils_122 : decode cL_arePupils 122 = .ok (.istore 6, 2) := by decide +kernel
theorem dL_arePupils_124 : decode cL_arePupils 124 = .ok (.iload 7, 2) := by decide +kernel
theorem dL_arePupils_126 : decode cL_arePupils 126 = .ok (.aload_n 0, 1) := by decide +kernel
theorem dL_arePupils_127 : decode cL_arePupils 127 = .ok (.iload 9, 2) := by decide +kernel
theorem dL_arePupils_129 : decode cL_arePupils 129 = .ok (.iconst 5, 1) := by decide +kernel
theorem dL_arePupils_130 : decode cL_arePupils 130 = .ok (.invokevirtual 20, 3) := by decide +kernel
theorem dL_arePupils_133 : decode cL_arePupils 133 = .ok (.iadd, 1) := by decide +kernel
theorem dL_arePupils_134 : decode cL_arePupils 134 = .ok (.istore 7, 2) := by decide +kernel
theorem dL_arePupils_136 : decode cL_arePupils 136 = .ok (.aload_n 0, 1) := by decide +kernel
theorem dL_arePupils_137 : decode cL_arePupils 137 = .ok (.iload 9, 2) := by decide +kernel
theorem dL_arePupils_139 : decode cL_arePupils 139 = .ok (.iconst 0, 1) := by decide +kernel
theorem dL_arePupils_140 : decode cL_arePupils 140 = .ok (.invokevirtual 20, 3) := by decide +kernel
theorem dL_arePupils_143 : decode cL_arePupils 143 = .ok (.ifCond .lt 169, 3) := by decide +kernel
theorem dL_arePupils_146 : decode cL_arePupils 146 = .ok (.aload_n 0, 1) := by decide +kernel
theorem dL_arePupils_147 : decode cL_arePupils 147 = .ok (.iload 9, 2) := by decide +kernel
theorem dL_arePupils_149 : decode cL_arePupils 149 = .ok (.iconst 0, 1) := by decide +kernel
theorem dL_arePupils_150 : decode cL_arePupils 150 = .ok (.invokevirtual 20, 3) := by decide +kernel
theorem dL_arePupils_153 : decode cL_arePupils 153 = .ok (.bipush 10, 2) := by decide +kernel
theorem dL_arePupils_155 : decode cL_arePupils 155 = .ok (.if_icmp .ge 157, 3) := by decide +kernel
theorem dL_arePupils_158 : decode cL_arePupils 158 = .ok (.aload_n 0, 1) := by decide +kernel
theorem dL_arePupils_159 : decode cL_arePupils 159 = .ok (.iload 9, 2) := by decide +kernel
theorem dL_arePupils_161 : decode cL_arePupils 161 = .ok (.iconst 1, 1) := by decide +kernel
theorem dL_arePupils_162 : decode cL_arePupils 162 = .ok (.invokevirtual 20, 3) := by decide +kernel
theorem dL_arePupils_165 : decode cL_arePupils 165 = .ok (.ifCond .lt 147, 3) := by decide +kernel
theorem dL_arePupils_168 : decode cL_arePupils 168 = .ok (.aload_n 0, 1) := by decide +kernel
theorem dL_arePupils_169 : decode cL_arePupils 169 = .ok (.iload 9, 2) := by decide +kernel
theorem dL_arePupils_171 : decode cL_arePupils 171 = .ok (.bipush 6, 2) := by decide +kernel
theorem dL_arePupils_173 : decode cL_arePupils 173 = .ok (.invokevirtual 20, 3) := by decide +kernel
theorem dL_arePupils_176 : decode cL_arePupils 176 = .ok (.ifCond .lt 136, 3) := by decide +kernel
theorem dL_arePupils_179 : decode cL_arePupils 179 = .ok (.aload_n 0, 1) := by decide +kernel
theorem dL_arePupils_180 : decode cL_arePupils 180 = .ok (.iload 9, 2) := by decide +kernel
theorem dL_arePupils_182 : decode cL_arePupils 182 = .ok (.bipush 6, 2) := by decide +kernel
theorem dL_arePupils_184 : decode cL_arePupils 184 = .ok (.invokevirtual 20, 3) := by decide +kernel
theorem dL_arePupils_187 : decode cL_arePupils 187 = .ok (.bipush 10, 2) := by decide +kernel
theorem dL_arePupils_189 : decode cL_arePupils 189 = .ok (.if_icmp .ge 123, 3) := by decide +kernel
theorem dL_arePupils_192 : decode cL_arePupils 192 = .ok (.aload_n 0, 1) := by decide +kernel
theorem dL_arePupils_193 : decode cL_arePupils 193 = .ok (.iload 9, 2) := by decide +kernel
theorem dL_arePupils_195 : decode cL_arePupils 195 = .ok (.bipush 6, 2) := by decide +kernel
theorem dL_arePupils_197 : decode cL_arePupils 197 = .ok (.invokevirtual 20, 3) := by decide +kernel
theorem dL_arePupils_200 : decode cL_arePupils 200 = .ok (.aload_n 0, 1) := by decide +kernel
theorem dL_arePupils_201 : decode cL_arePupils 201 = .ok (.iload 9, 2) := by decide +kernel
theorem dL_arePupils_203 : decode cL_arePupils 203 = .ok (.iload 9, 2) := by decide +kernel
theorem dL_arePupils_205 : decode cL_arePupils 205 = .ok (.iconst 2, 1) := by decide +kernel
theorem dL_arePupils_206 : decode cL_arePupils 206 = .ok (.irem, 1) := by decide +kernel
theorem dL_arePupils_207 : decode cL_arePupils 207 = .ok (.isub, 1) := by decide +kernel
theorem dL_arePupils_208 : decode cL_arePupils 208 = .ok (.bipush 6, 2) := by decide +kernel
theorem dL_arePupils_210 : decode cL_arePupils 210 = .ok (.invokevirtual 20, 3) := by decide +kernel
theorem dL_arePupils_213 : decode cL_arePupils 213 = .ok (.if_icmp .ne 99, 3) := by decide +kernel
theorem dL_arePupils_216 : decode cL_arePupils 216 = .ok (.iload 10, 2) := by decide +kernel
theorem dL_arePupils_218 : decode cL_arePupils 218 = .ok (.bipush (-6), 2) := by decide +kernel
theorem dL_arePupils_220 : decode cL_arePupils 220 = .ok (.if_icmp .eq 14, 3) := by decide +kernel
theorem dL_arePupils_223 : decode cL_arePupils 223 = .ok (.iload 10, 2) := by decide +kernel
theorem dL_arePupils_225 : decode cL_arePupils 225 = .ok (.ifCond .lt 87, 3) := by decide +kernel
theorem dL_arePupils_228 : decode cL_arePupils 228 = .ok (.iload 10, 2) := by decide +kernel
theorem dL_arePupils_230 : decode cL_arePupils 230 = .ok (.iconst 5, 1) := by decide +kernel
theorem dL_arePupils_231 : decode cL_arePupils 231 = .ok (.if_icmp .ge 81, 3) := by decide +kernel
theorem dL_arePupils_234 : decode cL_arePupils 234 = .ok (.aload_n 0, 1) := by decide +kernel
theorem dL_arePupils_235 : decode cL_arePupils 235 = .ok (.iload 9, 2) := by decide +kernel
theorem dL_arePupils_237 : decode cL_arePupils 237 = .ok (.iconst 5, 1) := by decide +kernel
theorem dL_arePupils_238 : decode cL_arePupils 238 = .ok (.invokevirtual 20, 3) := by decide +kernel
theorem dL_arePupils_241 : decode cL_arePupils 241 = .ok (.aload_n 0, 1) := by decide +kernel
theorem dL_arePupils_242 : decode cL_arePupils 242 = .ok (.iload 9, 2) := by decide +kernel
theorem dL_arePupils_244 : decode cL_arePupils 244 = .ok (.iconst 2, 1) := by decide +kernel
theorem dL_arePupils_245 : decode cL_arePupils 245 = .ok (.invokevirtual 20, 3) := by decide +kernel
theorem dL_arePupils_248 : decode cL_arePupils 248 = .ok (.if_icmp .gt 64, 3) := by decide +kernel
theorem dL_arePupils_251 : decode cL_arePupils 251 = .ok (.iload 10, 2) := by decide +kernel
theorem dL_arePupils_253 : decode cL_arePupils 253 = .ok (.bipush (-6), 2) := by decide +kernel
theorem dL_arePupils_255 : decode cL_arePupils 255 = .ok (.if_icmp .ne 13, 3) := by decide +kernel
theorem dL_arePupils_258 : decode cL_arePupils 258 = .ok (.aload_n 0, 1) := by decide +kernel
theorem dL_arePupils_259 : decode cL_arePupils 259 = .ok (.iload 9, 2) := by decide +kernel
theorem dL_arePupils_261 : decode cL_arePupils 261 = .ok (.iconst 5, 1) := by decide +kernel
theorem dL_arePupils_262 : decode cL_arePupils 262 = .ok (.invokevirtual 20, 3) := by decide +kernel
theorem dL_arePupils_265 : decode cL_arePupils 265 = .ok (.ifCond .ne 47, 3) := by decide +kernel
theorem dL_arePupils_268 : decode cL_arePupils 268 = .ok (.aload_n 0, 1) := by decide +kernel
theorem dL_arePupils_269 : decode cL_arePupils 269 = .ok (.iload 9, 2) := by decide +kernel
theorem dL_arePupils_271 : decode cL_arePupils 271 = .ok (.bipush 7, 2) := by decide +kernel
theorem dL_arePupils_273 : decode cL_arePupils 273 = .ok (.invokevirtual 20, 3) := by decide +kernel
theorem dL_arePupils_276 : decode cL_arePupils 276 = .ok (.ifCond .lt 36, 3) := by decide +kernel
theorem dL_arePupils_279 : decode cL_arePupils 279 = .ok (.aload_n 0, 1) := by decide +kernel
theorem dL_arePupils_280 : decode cL_arePupils 280 = .ok (.iload 9, 2) := by decide +kernel
theorem dL_arePupils_282 : decode cL_arePupils 282 = .ok (.iconst 3, 1) := by decide +kernel
theorem dL_arePupils_283 : decode cL_arePupils 283 = .ok (.invokevirtual 20, 3) := by decide +kernel
theorem dL_arePupils_286 : decode cL_arePupils 286 = .ok (.ifCond .gt 22, 3) := by decide +kernel
theorem dL_arePupils_289 : decode cL_arePupils 289 = .ok (.aload_n 0, 1) := by decide +kernel
theorem dL_arePupils_290 : decode cL_arePupils 290 = .ok (.iload 9, 2) := by decide +kernel
theorem dL_arePupils_292 : decode cL_arePupils 292 = .ok (.iconst 1, 1) := by decide +kernel
theorem dL_arePupils_293 : decode cL_arePupils 293 = .ok (.invokevirtual 20, 3) := by decide +kernel
theorem dL_arePupils_296 : decode cL_arePupils 296 = .ok (.aload_n 0, 1) := by decide +kernel
theorem dL_arePupils_297 : decode cL_arePupils 297 = .ok (.iload 9, 2) := by decide +kernel
theorem dL_arePupils_299 : decode cL_arePupils 299 = .ok (.bipush 7, 2) := by decide +kernel
theorem dL_arePupils_301 : decode cL_arePupils 301 = .ok (.invokevirtual 20, 3) := by decide +kernel
theorem dL_arePupils_304 : decode cL_arePupils 304 = .ok (.iadd, 1) := by decide +kernel
theorem dL_arePupils_305 : decode cL_arePupils 305 = .ok (.ifCond .ne 7, 3) := by decide +kernel
theorem dL_arePupils_308 : decode cL_arePupils 308 = .ok (.iconst 1, 1) := by decide +kernel
theorem dL_arePupils_309 : decode cL_arePupils 309 = .ok (.goto 4, 3) := by decide +kernel
theorem dL_arePupils_312 : decode cL_arePupils 312 = .ok (.iconst 0, 1) := by decide +kernel
theorem dL_arePupils_313 : decode cL_arePupils 313 = .ok (.istore 8, 2) := by decide +kernel
theorem dL_arePupils_315 : decode cL_arePupils 315 = .ok (.iinc 9 1, 3) := by decide +kernel
theorem dL_arePupils_318 : decode cL_arePupils 318 = .ok (.goto (-294), 3) := by decide +kernel
theorem dL_arePupils_321 : decode cL_arePupils 321 = .ok (.iconst 0, 1) := by decide +kernel
theorem dL_arePupils_322 : decode cL_arePupils 322 = .ok (.istore 9, 2) := by decide +kernel
theorem dL_arePupils_324 : decode cL_arePupils 324 = .ok (.iconst 0, 1) := by decide +kernel
theorem dL_arePupils_325 : decode cL_arePupils 325 = .ok (.istore 10, 2) := by decide +kernel
theorem dL_arePupils_327 : decode cL_arePupils 327 = .ok (.iconst 0, 1) := by decide +kernel
theorem dL_arePupils_328 : decode cL_arePupils 328 = .ok (.istore 11, 2) := by decide +kernel
theorem dL_arePupils_330 : decode cL_arePupils 330 = .ok (.iconst 0, 1) := by decide +kernel
theorem dL_arePupils_331 : decode cL_arePupils 331 = .ok (.istore 12, 2) := by decide +kernel
theorem dL_arePupils_333 : decode cL_arePupils 333 = .ok (.iload 12, 2) := by decide +kernel
theorem dL_arePupils_335 : decode cL_arePupils 335 = .ok (.aload_n 0, 1) := by decide +kernel
theorem dL_arePupils_336 : decode cL_arePupils 336 = .ok (.iconst 5, 1) := by decide +kernel
theorem dL_arePupils_337 : decode cL_arePupils 337 = .ok (.invokevirtual 14, 3) := by decide +kernel
theorem dL_arePupils_340 : decode cL_arePupils 340 = .ok (.if_icmp .ge 300, 3) := by decide +kernel
theorem dL_arePupils_343 : decode cL_arePupils 343 = .ok (.iload 8, 2) := by decide +kernel
theorem dL_arePupils_345 : decode cL_arePupils 345 = .ok (.ifCond .eq 295, 3) := by decide +kernel
theorem dL_arePupils_348 : decode cL_arePupils 348 = .ok (.iconst 0, 1) := by decide +kernel
theorem dL_arePupils_349 : decode cL_arePupils 349 = .ok (.istore 13, 2) := by decide +kernel
theorem dL_arePupils_351 : decode cL_arePupils 351 = .ok (.aload_n 0, 1) := by decide +kernel
theorem dL_arePupils_352 : decode cL_arePupils 352 = .ok (.iload 12, 2) := by decide +kernel
theorem dL_arePupils_354 : decode cL_arePupils 354 = .ok (.iconst 4, 1) := by decide +kernel
theorem dL_arePupils_355 : decode cL_arePupils 355 = .ok (.invokevirtual 24, 3) := by decide +kernel
theorem dL_arePupils_358 : decode cL_arePupils 358 = .ok (.istore 14, 2) := by decide +kernel
theorem dL_arePupils_360 : decode cL_arePupils 360 = .ok (.iload 9, 2) := by decide +kernel
theorem dL_arePupils_362 : decode cL_arePupils 362 = .ok (.aload_n 0, 1) := by decide +kernel
theorem dL_arePupils_363 : decode cL_arePupils 363 = .ok (.iload 12, 2) := by decide +kernel
theorem dL_arePupils_365 : decode cL_arePupils 365 = .ok (.iconst 2, 1) := by decide +kernel
theorem dL_arePupils_366 : decode cL_arePupils 366 = .ok (.invokevirtual 24, 3) := by decide +kernel
theorem dL_arePupils_369 : decode cL_arePupils 369 = .ok (.iadd, 1) := by decide +kernel
theorem dL_arePupils_370 : decode cL_arePupils 370 = .ok (.istore 9, 2) := by decide +kernel
theorem dL_arePupils_372 : decode cL_arePupils 372 = .ok (.iload 10, 2) := by decide +kernel
theorem dL_arePupils_374 : decode cL_arePupils 374 = .ok (.aload_n 0, 1) := by decide +kernel
theorem dL_arePupils_375 : decode cL_arePupils 375 = .ok (.iload 12, 2) := by decide +kernel
theorem dL_arePupils_377 : decode cL_arePupils 377 = .ok (.iconst 3, 1) := by decide +kernel
theorem dL_arePupils_378 : decode cL_arePupils 378 = .ok (.invokevirtual 24, 3) := by decide +kernel
theorem dL_arePupils_381 : decode cL_arePupils 381 = .ok (.iadd, 1) := by decide +kernel
theorem dL_arePupils_382 : decode cL_arePupils 382 = .ok (.istore 10, 2) := by decide +kernel
theorem dL_arePupils_384 : decode cL_arePupils 384 = .ok (.iconst 0, 1) := by decide +kernel
theorem dL_arePupils_385 : decode cL_arePupils 385 = .ok (.istore 15, 2) := by decide +kernel
theorem dL_arePupils_387 : decode cL_arePupils 387 = .ok (.iload 15, 2) := by decide +kernel
theorem dL_arePupils_389 : decode cL_arePupils 389 = .ok (.bipush 10, 2) := by decide +kernel
theorem dL_arePupils_391 : decode cL_arePupils 391 = .ok (.if_icmp .ge 105, 3) := by decide +kernel
theorem dL_arePupils_394 : decode cL_arePupils 394 = .ok (.iload 8, 2) := by decide +kernel
theorem dL_arePupils_396 : decode cL_arePupils 396 = .ok (.ifCond .eq 100, 3) := by decide +kernel
theorem dL_arePupils_399 : decode cL_arePupils 399 = .ok (.aload_n 0, 1) := by decide +kernel
theorem dL_arePupils_400 : decode cL_arePupils 400 = .ok (.iload 15, 2) := by decide +kernel
theorem dL_arePupils_402 : decode cL_arePupils 402 = .ok (.iload 12, 2) := by decide +kernel
theorem dL_arePupils_404 : decode cL_arePupils 404 = .ok (.invokevirtual 27, 3) := by decide +kernel
theorem dL_arePupils_407 : decode cL_arePupils 407 = .ok (.istore 16, 2) := by decide +kernel
theorem dL_arePupils_409 : decode cL_arePupils 409 = .ok (.iload 13, 2) := by decide +kernel
theorem dL_arePupils_411 : decode cL_arePupils 411 = .ok (.iload 16, 2) := by decide +kernel
theorem dL_arePupils_413 : decode cL_arePupils 413 = .ok (.iadd, 1) := by decide +kernel
theorem dL_arePupils_414 : decode cL_arePupils 414 = .ok (.istore 13, 2) := by decide +kernel
theorem dL_arePupils_416 : decode cL_arePupils 416 = .ok (.iload 16, 2) := by decide +kernel
theorem dL_arePupils_418 : decode cL_arePupils 418 = .ok (.ifCond .lt 69, 3) := by decide +kernel
theorem dL_arePupils_421 : decode cL_arePupils 421 = .ok (.iload 16, 2) := by decide +kernel
theorem dL_arePupils_423 : decode cL_arePupils 423 = .ok (.bipush 100, 2) := by decide +kernel
theorem dL_arePupils_425 : decode cL_arePupils 425 = .ok (.if_icmp .gt 62, 3) := by decide +kernel
theorem dL_arePupils_428 : decode cL_arePupils 428 = .ok (.iload 16, 2) := by decide +kernel
theorem dL_arePupils_430 : decode cL_arePupils 430 = .ok (.aload_n 0, 1) := by decide +kernel
theorem dL_arePupils_431 : decode cL_arePupils 431 = .ok (.iload 15, 2) := by decide +kernel
theorem dL_arePupils_433 : decode cL_arePupils 433 = .ok (.iload 15, 2) := by decide +kernel
theorem dL_arePupils_435 : decode cL_arePupils 435 = .ok (.iconst 2, 1) := by decide +kernel
theorem dL_arePupils_436 : decode cL_arePupils 436 = .ok (.irem, 1) := by decide +kernel
theorem dL_arePupils_437 : decode cL_arePupils 437 = .ok (.isub, 1) := by decide +kernel
theorem dL_arePupils_438 : decode cL_arePupils 438 = .ok (.iload 12, 2) := by decide +kernel
theorem dL_arePupils_440 : decode cL_arePupils 440 = .ok (.invokevirtual 27, 3) := by decide +kernel
theorem dL_arePupils_443 : decode cL_arePupils 443 = .ok (.if_icmp .ne 44, 3) := by decide +kernel
theorem dL_arePupils_446 : decode cL_arePupils 446 = .ok (.aload_n 0, 1) := by decide +kernel
theorem dL_arePupils_447 : decode cL_arePupils 447 = .ok (.iload 12, 2) := by decide +kernel
theorem dL_arePupils_449 : decode cL_arePupils 449 = .ok (.iconst 2, 1) := by decide +kernel
theorem dL_arePupils_450 : decode cL_arePupils 450 = .ok (.invokevirtual 24, 3) := by decide +kernel
theorem dL_arePupils_453 : decode cL_arePupils 453 = .ok (.ifCond .gt 10, 3) := by decide +kernel
theorem dL_arePupils_456 : decode cL_arePupils 456 = .ok (.iload 16, 2) := by decide +kernel
theorem dL_arePupils_458 : decode cL_arePupils 458 = .ok (.bipush 100, 2) := by decide +kernel
theorem dL_arePupils_460 : decode cL_arePupils 460 = .ok (.if_icmp .ne 27, 3) := by decide +kernel
theorem dL_arePupils_463 : decode cL_arePupils 463 = .ok (.iload 14, 2) := by decide +kernel
theorem dL_arePupils_465 : decode cL_arePupils 465 = .ok (.iload 15, 2) := by decide +kernel
theorem dL_arePupils_467 : decode cL_arePupils 467 = .ok (.ishr, 1) := by decide +kernel
theorem dL_arePupils_468 : decode cL_arePupils 468 = .ok (.iconst 1, 1) := by decide +kernel
theorem dL_arePupils_469 : decode cL_arePupils 469 = .ok (.iand, 1) := by decide +kernel
theorem dL_arePupils_470 : decode cL_arePupils 470 = .ok (.ifCond .eq 13, 3) := by decide +kernel
theorem dL_arePupils_473 : decode cL_arePupils 473 = .ok (.aload_n 0, 1) := by decide +kernel
theorem dL_arePupils_474 : decode cL_arePupils 474 = .ok (.iload 15, 2) := by decide +kernel
theorem dL_arePupils_476 : decode cL_arePupils 476 = .ok (.iconst 5, 1) := by decide +kernel
theorem dL_arePupils_477 : decode cL_arePupils 477 = .ok (.invokevirtual 20, 3) := by decide +kernel
theorem dL_arePupils_480 : decode cL_arePupils 480 = .ok (.ifCond .le 7, 3) := by decide +kernel
theorem dL_arePupils_483 : decode cL_arePupils 483 = .ok (.iconst 1, 1) := by decide +kernel
theorem dL_arePupils_484 : decode cL_arePupils 484 = .ok (.goto 4, 3) := by decide +kernel
theorem dL_arePupils_487 : decode cL_arePupils 487 = .ok (.iconst 0, 1) := by decide +kernel
theorem dL_arePupils_488 : decode cL_arePupils 488 = .ok (.istore 8, 2) := by decide +kernel
theorem dL_arePupils_490 : decode cL_arePupils 490 = .ok (.iinc 15 1, 3) := by decide +kernel
theorem dL_arePupils_493 : decode cL_arePupils 493 = .ok (.goto (-106), 3) := by decide +kernel
theorem dL_arePupils_496 : decode cL_arePupils 496 = .ok (.iload 11, 2) := by decide +kernel
theorem dL_arePupils_498 : decode cL_arePupils 498 = .ok (.iload 13, 2) := by decide +kernel
theorem dL_arePupils_500 : decode cL_arePupils 500 = .ok (.ifCond .ne 7, 3) := by decide +kernel
theorem dL_arePupils_503 : decode cL_arePupils 503 = .ok (.iconst 1, 1) := by decide +kernel
theorem dL_arePupils_504 : decode cL_arePupils 504 = .ok (.goto 4, 3) := by decide +kernel
theorem dL_arePupils_507 : decode cL_arePupils 507 = .ok (.iconst 0, 1) := by decide +kernel
theorem dL_arePupils_508 : decode cL_arePupils 508 = .ok (.iadd, 1) := by decide +kernel
theorem dL_arePupils_509 : decode cL_arePupils 509 = .ok (.istore 11, 2) := by decide +kernel
theorem dL_arePupils_511 : decode cL_arePupils 511 = .ok (.iload 8, 2) := by decide +kernel
theorem dL_arePupils_513 : decode cL_arePupils 513 = .ok (.ifCond .eq 118, 3) := by decide +kernel
theorem dL_arePupils_516 : decode cL_arePupils 516 = .ok (.aload_n 0, 1) := by decide +kernel
theorem dL_arePupils_517 : decode cL_arePupils 517 = .ok (.iload 12, 2) := by decide +kernel
theorem dL_arePupils_519 : decode cL_arePupils 519 = .ok (.iconst 0, 1) := by decide +kernel
theorem dL_arePupils_520 : decode cL_arePupils 520 = .ok (.invokevirtual 24, 3) := by decide +kernel
theorem dL_arePupils_523 : decode cL_arePupils 523 = .ok (.ifCond .lt 108, 3) := by decide +kernel
theorem dL_arePupils_526 : decode cL_arePupils 526 = .ok (.aload_n 0, 1) := by decide +kernel
theorem dL_arePupils_527 : decode cL_arePupils 527 = .ok (.iload 12, 2) := by decide +kernel
theorem dL_arePupils_529 : decode cL_arePupils 529 = .ok (.iconst 0, 1) := by decide +kernel
theorem dL_arePupils_530 : decode cL_arePupils 530 = .ok (.invokevirtual 24, 3) := by decide +kernel
theorem dL_arePupils_533 : decode cL_arePupils 533 = .ok (.iconst 5, 1) := by decide +kernel
theorem dL_arePupils_534 : decode cL_arePupils 534 = .ok (.if_icmp .ge 97, 3) := by decide +kernel
theorem dL_arePupils_537 : decode cL_arePupils 537 = .ok (.aload_n 0, 1) := by decide +kernel
theorem dL_arePupils_538 : decode cL_arePupils 538 = .ok (.iload 12, 2) := by decide +kernel
theorem dL_arePupils_540 : decode cL_arePupils 540 = .ok (.iconst 1, 1) := by decide +kernel
theorem dL_arePupils_541 : decode cL_arePupils 541 = .ok (.invokevirtual 24, 3) := by decide +kernel
theorem dL_arePupils_544 : decode cL_arePupils 544 = .ok (.ifCond .le 87, 3) := by decide +kernel
theorem dL_arePupils_547 : decode cL_arePupils 547 = .ok (.aload_n 0, 1) := by decide +kernel
theorem dL_arePupils_548 : decode cL_arePupils 548 = .ok (.iload 12, 2) := by decide +kernel
theorem dL_arePupils_550 : decode cL_arePupils 550 = .ok (.iconst 1, 1) := by decide +kernel
theorem dL_arePupils_551 : decode cL_arePupils 551 = .ok (.invokevirtual 24, 3) := by decide +kernel
theorem dL_arePupils_554 : decode cL_arePupils 554 = .ok (.bipush 100, 2) := by decide +kernel
theorem dL_arePupils_556 : decode cL_arePupils 556 = .ok (.if_icmp .ge 75, 3) := by decide +kernel
theorem dL_arePupils_559 : decode cL_arePupils 559 = .ok (.aload_n 0, 1) := by decide +kernel
theorem dL_arePupils_560 : decode cL_arePupils 560 = .ok (.iload 12, 2) := by decide +kernel
theorem dL_arePupils_562 : decode cL_arePupils 562 = .ok (.iconst 2, 1) := by decide +kernel
theorem dL_arePupils_563 : decode cL_arePupils 563 = .ok (.invokevirtual 24, 3) := by decide +kernel
theorem dL_arePupils_566 : decode cL_arePupils 566 = .ok (.aload_n 0, 1) := by decide +kernel
theorem dL_arePupils_567 : decode cL_arePupils 567 = .ok (.iload 12, 2) := by decide +kernel
theorem dL_arePupils_569 : decode cL_arePupils 569 = .ok (.iconst 3, 1) := by decide +kernel
theorem dL_arePupils_570 : decode cL_arePupils 570 = .ok (.invokevirtual 24, 3) := by decide +kernel
theorem dL_arePupils_573 : decode cL_arePupils 573 = .ok (.if_icmp .gt 58, 3) := by decide +kernel
theorem dL_arePupils_576 : decode cL_arePupils 576 = .ok (.iload 14, 2) := by decide +kernel
theorem dL_arePupils_578 : decode cL_arePupils 578 = .ok (.invokestatic 32, 3) := by decide +kernel
theorem dL_arePupils_581 : decode cL_arePupils 581 = .ok (.aload_n 0, 1) := by decide +kernel
theorem dL_arePupils_582 : decode cL_arePupils 582 = .ok (.iload 12, 2) := by decide +kernel
theorem dL_arePupils_584 : decode cL_arePupils 584 = .ok (.iconst 2, 1) := by decide +kernel
theorem dL_arePupils_585 : decode cL_arePupils 585 = .ok (.invokevirtual 24, 3) := by decide +kernel
theorem dL_arePupils_588 : decode cL_arePupils 588 = .ok (.if_icmp .gt 43, 3) := by decide +kernel
theorem dL_arePupils_591 : decode cL_arePupils 591 = .ok (.iload 14, 2) := by decide +kernel
theorem dL_arePupils_593 : decode cL_arePupils 593 = .ok (.ifCond .ne 7, 3) := by decide +kernel
theorem dL_arePupils_596 : decode cL_arePupils 596 = .ok (.iconst 1, 1) := by decide +kernel
theorem dL_arePupils_597 : decode cL_arePupils 597 = .ok (.goto 4, 3) := by decide +kernel
theorem dL_arePupils_600 : decode cL_arePupils 600 = .ok (.iconst 0, 1) := by decide +kernel
theorem dL_arePupils_601 : decode cL_arePupils 601 = .ok (.aload_n 0, 1) := by decide +kernel
theorem dL_arePupils_602 : decode cL_arePupils 602 = .ok (.iload 12, 2) := by decide +kernel
theorem dL_arePupils_604 : decode cL_arePupils 604 = .ok (.iconst 2, 1) := by decide +kernel
theorem dL_arePupils_605 : decode cL_arePupils 605 = .ok (.invokevirtual 24, 3) := by decide +kernel
theorem dL_arePupils_608 : decode cL_arePupils 608 = .ok (.ifCond .ne 7, 3) := by decide +kernel
theorem dL_arePupils_611 : decode cL_arePupils 611 = .ok (.iconst 1, 1) := by decide +kernel
theorem dL_arePupils_612 : decode cL_arePupils 612 = .ok (.goto 4, 3) := by decide +kernel
theorem dL_arePupils_615 : decode cL_arePupils 615 = .ok (.iconst 0, 1) := by decide +kernel
theorem dL_arePupils_616 : decode cL_arePupils 616 = .ok (.if_icmp .ne 15, 3) := by decide +kernel
theorem dL_arePupils_619 : decode cL_arePupils 619 = .ok (.iload 14, 2) := by decide +kernel
theorem dL_arePupils_621 : decode cL_arePupils 621 = .ok (.sipush 1024, 3) := by decide +kernel
theorem dL_arePupils_624 : decode cL_arePupils 624 = .ok (.if_icmp .ge 7, 3) := by decide +kernel
theorem dL_arePupils_627 : decode cL_arePupils 627 = .ok (.iconst 1, 1) := by decide +kernel
theorem dL_arePupils_628 : decode cL_arePupils 628 = .ok (.goto 4, 3) := by decide +kernel
theorem dL_arePupils_631 : decode cL_arePupils 631 = .ok (.iconst 0, 1) := by decide +kernel
theorem dL_arePupils_632 : decode cL_arePupils 632 = .ok (.istore 8, 2) := by decide +kernel
theorem dL_arePupils_634 : decode cL_arePupils 634 = .ok (.iinc 12 1, 3) := by decide +kernel
theorem dL_arePupils_637 : decode cL_arePupils 637 = .ok (.goto (-304), 3) := by decide +kernel
theorem dL_arePupils_640 : decode cL_arePupils 640 = .ok (.iload 8, 2) := by decide +kernel
theorem dL_arePupils_642 : decode cL_arePupils 642 = .ok (.ifCond .eq 128, 3) := by decide +kernel
theorem dL_arePupils_645 : decode cL_arePupils 645 = .ok (.iload_n 1, 1) := by decide +kernel
theorem dL_arePupils_646 : decode cL_arePupils 646 = .ok (.aload_n 0, 1) := by decide +kernel
theorem dL_arePupils_647 : decode cL_arePupils 647 = .ok (.bipush 11, 2) := by decide +kernel
theorem dL_arePupils_649 : decode cL_arePupils 649 = .ok (.invokevirtual 14, 3) := by decide +kernel
theorem dL_arePupils_652 : decode cL_arePupils 652 = .ok (.if_icmp .ne 118, 3) := by decide +kernel
theorem dL_arePupils_655 : decode cL_arePupils 655 = .ok (.iload_n 2, 1) := by decide +kernel
theorem dL_arePupils_656 : decode cL_arePupils 656 = .ok (.aload_n 0, 1) := by decide +kernel
theorem dL_arePupils_657 : decode cL_arePupils 657 = .ok (.bipush 12, 2) := by decide +kernel
theorem dL_arePupils_659 : decode cL_arePupils 659 = .ok (.invokevirtual 14, 3) := by decide +kernel
theorem dL_arePupils_662 : decode cL_arePupils 662 = .ok (.if_icmp .ne 108, 3) := by decide +kernel
theorem dL_arePupils_665 : decode cL_arePupils 665 = .ok (.iload_n 1, 1) := by decide +kernel
theorem dL_arePupils_666 : decode cL_arePupils 666 = .ok (.iload_n 2, 1) := by decide +kernel
theorem dL_arePupils_667 : decode cL_arePupils 667 = .ok (.iadd, 1) := by decide +kernel
theorem dL_arePupils_668 : decode cL_arePupils 668 = .ok (.aload_n 0, 1) := by decide +kernel
theorem dL_arePupils_669 : decode cL_arePupils 669 = .ok (.bipush 13, 2) := by decide +kernel
theorem dL_arePupils_671 : decode cL_arePupils 671 = .ok (.invokevirtual 14, 3) := by decide +kernel
theorem dL_arePupils_674 : decode cL_arePupils 674 = .ok (.if_icmp .ne 96, 3) := by decide +kernel
theorem dL_arePupils_677 : decode cL_arePupils 677 = .ok (.iload_n 3, 1) := by decide +kernel
theorem dL_arePupils_678 : decode cL_arePupils 678 = .ok (.aload_n 0, 1) := by decide +kernel
theorem dL_arePupils_679 : decode cL_arePupils 679 = .ok (.bipush 15, 2) := by decide +kernel
theorem dL_arePupils_681 : decode cL_arePupils 681 = .ok (.invokevirtual 14, 3) := by decide +kernel
theorem dL_arePupils_684 : decode cL_arePupils 684 = .ok (.if_icmp .ne 86, 3) := by decide +kernel
theorem dL_arePupils_687 : decode cL_arePupils 687 = .ok (.iload 4, 2) := by decide +kernel
theorem dL_arePupils_689 : decode cL_arePupils 689 = .ok (.aload_n 0, 1) := by decide +kernel
theorem dL_arePupils_690 : decode cL_arePupils 690 = .ok (.bipush 16, 2) := by decide +kernel
theorem dL_arePupils_692 : decode cL_arePupils 692 = .ok (.invokevirtual 14, 3) := by decide +kernel
theorem dL_arePupils_695 : decode cL_arePupils 695 = .ok (.if_icmp .ne 75, 3) := by decide +kernel
theorem dL_arePupils_698 : decode cL_arePupils 698 = .ok (.iload 5, 2) := by decide +kernel
theorem dL_arePupils_700 : decode cL_arePupils 700 = .ok (.aload_n 0, 1) := by decide +kernel
theorem dL_arePupils_701 : decode cL_arePupils 701 = .ok (.bipush 6, 2) := by decide +kernel
theorem dL_arePupils_703 : decode cL_arePupils 703 = .ok (.invokevirtual 14, 3) := by decide +kernel
theorem dL_arePupils_706 : decode cL_arePupils 706 = .ok (.if_icmp .ne 64, 3) := by decide +kernel
theorem dL_arePupils_709 : decode cL_arePupils 709 = .ok (.iload 6, 2) := by decide +kernel
theorem dL_arePupils_711 : decode cL_arePupils 711 = .ok (.aload_n 0, 1) := by decide +kernel
theorem dL_arePupils_712 : decode cL_arePupils 712 = .ok (.bipush 7, 2) := by decide +kernel
theorem dL_arePupils_714 : decode cL_arePupils 714 = .ok (.invokevirtual 14, 3) := by decide +kernel
theorem dL_arePupils_717 : decode cL_arePupils 717 = .ok (.aload_n 0, 1) := by decide +kernel
theorem dL_arePupils_718 : decode cL_arePupils 718 = .ok (.bipush 8, 2) := by decide +kernel
theorem dL_arePupils_720 : decode cL_arePupils 720 = .ok (.invokevirtual 14, 3) := by decide +kernel
theorem dL_arePupils_723 : decode cL_arePupils 723 = .ok (.iadd, 1) := by decide +kernel
theorem dL_arePupils_724 : decode cL_arePupils 724 = .ok (.aload_n 0, 1) := by decide +kernel
theorem dL_arePupils_725 : decode cL_arePupils 725 = .ok (.bipush 9, 2) := by decide +kernel
theorem dL_arePupils_727 : decode cL_arePupils 727 = .ok (.invokevirtual 14, 3) := by decide +kernel
theorem dL_arePupils_730 : decode cL_arePupils 730 = .ok (.iadd, 1) := by decide +kernel
theorem dL_arePupils_731 : decode cL_arePupils 731 = .ok (.aload_n 0, 1) := by decide +kernel
theorem dL_arePupils_732 : decode cL_arePupils 732 = .ok (.bipush 10, 2) := by decide +kernel
theorem dL_arePupils_734 : decode cL_arePupils 734 = .ok (.invokevirtual 14, 3) := by decide +kernel
theorem dL_arePupils_737 : decode cL_arePupils 737 = .ok (.iadd, 1) := by decide +kernel
theorem dL_arePupils_738 : decode cL_arePupils 738 = .ok (.if_icmp .ne 32, 3) := by decide +kernel
theorem dL_arePupils_741 : decode cL_arePupils 741 = .ok (.iload 9, 2) := by decide +kernel
theorem dL_arePupils_743 : decode cL_arePupils 743 = .ok (.iload 7, 2) := by decide +kernel
theorem dL_arePupils_745 : decode cL_arePupils 745 = .ok (.if_icmp .ne 25, 3) := by decide +kernel
theorem dL_arePupils_748 : decode cL_arePupils 748 = .ok (.iload 10, 2) := by decide +kernel
theorem dL_arePupils_750 : decode cL_arePupils 750 = .ok (.iload 5, 2) := by decide +kernel
theorem dL_arePupils_752 : decode cL_arePupils 752 = .ok (.if_icmp .ne 18, 3) := by decide +kernel
theorem dL_arePupils_755 : decode cL_arePupils 755 = .ok (.iload 11, 2) := by decide +kernel
theorem dL_arePupils_757 : decode cL_arePupils 757 = .ok (.aload_n 0, 1) := by decide +kernel
theorem dL_arePupils_758 : decode cL_arePupils 758 = .ok (.bipush 17, 2) := by decide +kernel
theorem dL_arePupils_760 : decode cL_arePupils 760 = .ok (.invokevirtual 14, 3) := by decide +kernel
theorem dL_arePupils_763 : decode cL_arePupils 763 = .ok (.if_icmp .ne 7, 3) := by decide +kernel
theorem dL_arePupils_766 : decode cL_arePupils 766 = .ok (.iconst 1, 1) := by decide +kernel
theorem dL_arePupils_767 : decode cL_arePupils 767 = .ok (.goto 4, 3) := by decide +kernel
theorem dL_arePupils_770 : decode cL_arePupils 770 = .ok (.iconst 0, 1) := by decide +kernel
theorem dL_arePupils_771 : decode cL_arePupils 771 = .ok (.ireturn, 1) := by decide +kernel
