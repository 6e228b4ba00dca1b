set_option maxRecDepth 20000 in
theorem ggL_refusesAny_X4_count : GoodIn wsL_refusesAny wsX4_count := goodIn_r _ [5, 6, 7, 8, 9, 10, 11, 12, 13, 14, 15, 16, 17, 18, 19, 20, 21, 22, 4, 23, 24, 25, 26, 27, 28, 29, 30, 31, 32, 33, 34, 35, 36, 37, 38, 39, 40, 41, 42, 43, 44, 45, 46, 47, 48, 49, 50, 51, 52, 53, 54, 55, 56, 298, 299, 300, 301, 302, 303, 304, 305, 306, 307, 308, 309, 310, 311, 312, 313, 314, 315, 316, 317, 318, 319, 320, 321, 322, 323] (by decide +kernel) (by decide +kernel)
set_option maxRecDepth 20000 in
theorem gL_refusesAny_X4_count : GoodIn wsL_refusesAny (wsV RL 14 RX4 yX4_count wsX4_count) := goodIn_app (goodIn_of _ (by decide +kernel)) ggL_refusesAny_X4_count
set_option maxRecDepth 20000 in
theorem ggL_refusesAny_X4_set : GoodIn wsL_refusesAny wsX4_set := goodIn_r _ [60, 6, 61, 62, 19, 7, 8, 21, 22, 4, 23, 63, 64, 65, 66, 67, 68, 69, 70, 71, 72, 44, 73, 74, 75, 76, 30, 77, 41, 32, 78, 79, 80, 50, 81, 82, 83, 84, 85, 86, 87, 88, 89, 90, 91, 92, 93, 94, 95, 96, 298, 299, 300, 301, 302, 303, 304, 305, 306, 307, 308, 309, 310, 311, 312, 313, 314, 315, 316, 317, 318, 321, 322, 323] (by decide +kernel) (by decide +kernel)
set_option maxRecDepth 20000 in
theorem gL_refusesAny_X4_set : GoodIn wsL_refusesAny (wsV RL 35 RX4 yX4_set wsX4_set) := goodIn_app (goodIn_of _ (by decide +kernel)) ggL_refusesAny_X4_set
set_option maxRecDepth 20000 in
theorem ggL_refusesAny_X4_add : GoodIn wsL_refusesAny wsX4_add := goodIn_r _ [100, 7, 9, 19, 21, 22, 4, 23, 63, 64, 65, 66, 67, 68, 69, 70, 71, 72, 44, 73, 74, 75, 76, 30, 77, 41, 32, 78, 79, 80, 50, 81, 82, 83, 84, 85, 86, 87, 88, 89, 90, 91, 92, 93, 94, 95, 96, 101, 102, 103, 104, 298, 299, 300, 301, 302, 303, 304, 305, 306, 307, 308, 309, 310, 311, 312, 313, 314, 315, 316, 317, 318, 321, 322, 323] (by decide +kernel) (by decide +kernel)
set_option maxRecDepth 20000 in
theorem gL_refusesAny_X4_add : GoodIn wsL_refusesAny (wsV RL 38 RX4 yX4_add wsX4_add) := goodIn_app (goodIn_of _ (by decide +kernel)) ggL_refusesAny_X4_add
set_option maxRecDepth 20000 in
theorem ggL_refusesAny_X4_worth : GoodIn wsL_refusesAny wsX4_worth := goodIn_r _ [108, 7, 19, 109, 110, 111, 112, 30, 113, 32, 21, 22, 4, 23, 63, 64, 65, 66, 67, 68, 69, 70, 71, 72, 44, 73, 74, 75, 76, 77, 41, 78, 79, 80, 50, 81, 82, 83, 84, 85, 86, 87, 88, 89, 90, 91, 92, 93, 94, 95, 96, 298, 299, 300, 301, 302, 303, 304, 305, 306, 307, 308, 309, 310, 311, 312, 313, 314, 315, 316, 317, 318, 321, 322, 323] (by decide +kernel) (by decide +kernel)
set_option maxRecDepth 20000 in
theorem gL_refusesAny_X4_worth : GoodIn wsL_refusesAny (wsV RL 41 RX4 yX4_worth wsX4_worth) := goodIn_app (goodIn_of _ (by decide +kernel)) ggL_refusesAny_X4_worth
set_option maxRecDepth 20000 in
theorem ggL_refusesAny_X4_offer : GoodIn wsL_refusesAny wsX4_offer := goodIn_r _ [117, 19, 7, 118, 119, 120, 4, 121, 122, 123, 124, 21, 22, 23, 110, 111, 112, 30, 113, 32, 63, 64, 65, 66, 67, 68, 69, 70, 71, 72, 44, 73, 74, 75, 76, 77, 41, 78, 79, 80, 50, 81, 82, 83, 84, 85, 86, 87, 88, 89, 90, 91, 92, 93, 94, 95, 96, 125, 126, 127, 128, 129, 130, 131, 132, 133, 134, 135, 136, 137, 138, 139, 140, 37, 38, 39, 40, 42, 43, 45, 46, 47, 48, 49, 51, 52, 53, 54, 55, 56, 141, 142, 143, 144, 145, 146, 147, 148, 149, 150, 151, 152, 153, 154, 155, 156, 157, 158, 159, 160, 161, 298, 299, 300, 301, 302, 303, 304, 305, 306, 307, 308, 309, 310, 311, 312, 313, 314, 315, 316, 317, 318, 321, 322, 323] (by decide +kernel) (by decide +kernel)
set_option maxRecDepth 20000 in
theorem gL_refusesAny_X4_offer : GoodIn wsL_refusesAny (wsV RL 44 RX4 yX4_offer wsX4_offer) := goodIn_app (goodIn_of _ (by decide +kernel)) ggL_refusesAny_X4_offer
set_option maxRecDepth 20000 in
theorem ggL_refusesAny_X4_pay : GoodIn wsL_refusesAny wsX4_pay := goodIn_r _ [165, 7, 12, 19, 13, 122, 123, 4, 124, 21, 22, 23, 63, 64, 65, 66, 67, 68, 69, 70, 71, 72, 44, 73, 74, 75, 76, 30, 77, 41, 32, 78, 79, 80, 50, 81, 82, 83, 84, 85, 86, 87, 88, 89, 90, 91, 92, 93, 94, 95, 96, 298, 299, 300, 301, 302, 303, 304, 305, 306, 307, 308, 309, 310, 311, 312, 313, 314, 315, 316, 317, 318, 321, 322, 323] (by decide +kernel) (by decide +kernel)
set_option maxRecDepth 20000 in
theorem gL_refusesAny_X4_pay : GoodIn wsL_refusesAny (wsV RL 48 RX4 yX4_pay wsX4_pay) := goodIn_app (goodIn_of _ (by decide +kernel)) ggL_refusesAny_X4_pay
set_option maxRecDepth 20000 in
theorem ggL_refusesAny_X4_pupil : GoodIn wsL_refusesAny wsX4_pupil := goodIn_r _ [169, 7, 15, 12, 10, 170, 171, 16, 13, 122, 123, 4, 124, 21, 22, 23, 172, 173, 174, 30, 175, 133, 134, 135, 136, 50, 176, 51, 52, 298, 299, 300, 301, 302, 303, 304, 305, 306, 307, 308, 309, 310, 311, 312, 313, 314, 315, 316, 317, 318] (by decide +kernel) (by decide +kernel)
set_option maxRecDepth 20000 in
theorem gL_refusesAny_X4_pupil : GoodIn wsL_refusesAny (wsV RL 20 RX4 yX4_pupil wsX4_pupil) := goodIn_app (goodIn_of _ (by decide +kernel)) ggL_refusesAny_X4_pupil
set_option maxRecDepth 20000 in
theorem ggL_refusesAny_X4_excuse : GoodIn wsL_refusesAny wsX4_excuse := goodIn_r _ [180, 7, 181, 109, 182, 110, 111, 112, 30, 113, 32, 183, 47, 48, 49, 50, 184, 185, 186, 187, 133, 134, 135, 136, 298, 299, 300, 301, 302, 303, 304, 305, 306, 307, 308, 309, 310, 311, 312, 313, 314, 315, 316, 317, 318] (by decide +kernel) (by decide +kernel)
set_option maxRecDepth 20000 in
theorem gL_refusesAny_X4_excuse : GoodIn wsL_refusesAny (wsV RL 24 RX4 yX4_excuse wsX4_excuse) := goodIn_app (goodIn_of _ (by decide +kernel)) ggL_refusesAny_X4_excuse
set_option maxRecDepth 20000 in
theorem ggL_refusesAny_X4_novelty : GoodIn wsL_refusesAny wsX4_novelty := goodIn_r _ [191, 7, 122, 123, 4, 124, 21, 22, 23, 110, 111, 112, 30, 113, 32, 192, 38, 39, 40, 41, 42, 43, 44, 45, 46, 47, 48, 49, 50, 51, 52, 53, 54, 55, 56, 298, 299, 300, 301, 302, 303, 304, 305, 306, 307, 308, 309, 310, 311, 312, 313, 314, 315, 316, 317, 318] (by decide +kernel) (by decide +kernel)
set_option maxRecDepth 20000 in
theorem gL_refusesAny_X4_novelty : GoodIn wsL_refusesAny (wsV RL 27 RX4 yX4_novelty wsX4_novelty) := goodIn_app (goodIn_of _ (by decide +kernel)) ggL_refusesAny_X4_novelty
set_option maxRecDepth 20000 in
theorem ggL_refusesAny_X4_why : GoodIn wsL_refusesAny wsX4_why := goodIn_r _ [196, 7, 118, 119, 120, 4, 121, 122, 123, 124, 21, 22, 23, 110, 111, 112, 30, 113, 32, 197, 130, 131, 132, 41, 86, 78, 81, 133, 134, 135, 136, 50, 137, 138, 139, 140, 79, 87, 37, 38, 39, 40, 42, 43, 44, 45, 46, 47, 48, 49, 51, 52, 53, 54, 55, 56, 141, 142, 143, 144, 298, 299, 300, 301, 302, 303, 304, 305, 306, 307, 308, 309, 310, 311, 312, 313, 314, 315, 316, 317, 318] (by decide +kernel) (by decide +kernel)
set_option maxRecDepth 20000 in
theorem gL_refusesAny_X4_why : GoodIn wsL_refusesAny (wsV RL 51 RX4 yX4_why wsX4_why) := goodIn_app (goodIn_of _ (by decide +kernel)) ggL_refusesAny_X4_why
set_option maxRecDepth 20000 in
theorem ggL_refusesAny_X4_weight : GoodIn wsL_refusesAny wsX4_weight := goodIn_r _ [201, 7, 118, 119, 120, 4, 121, 122, 123, 124, 21, 22, 23, 110, 111, 112, 30, 113, 32, 202, 138, 139, 140, 79, 41, 87, 37, 38, 39, 40, 42, 43, 44, 45, 46, 47, 48, 49, 50, 51, 52, 53, 54, 55, 56, 141, 142, 143, 144, 81, 298, 299, 300, 301, 302, 303, 304, 305, 306, 307, 308, 309, 310, 311, 312, 313, 314, 315, 316, 317, 318] (by decide +kernel) (by decide +kernel)
set_option maxRecDepth 20000 in
theorem gL_refusesAny_X4_weight : GoodIn wsL_refusesAny (wsV RL 54 RX4 yX4_weight wsX4_weight) := goodIn_app (goodIn_of _ (by decide +kernel)) ggL_refusesAny_X4_weight
set_option maxRecDepth 20000 in
theorem ggL_refusesAny_X4_bestWitness : GoodIn wsL_refusesAny wsX4_bestWitness := goodIn_r _ [206, 7, 15, 122, 123, 4, 124, 21, 22, 23, 110, 111, 112, 30, 113, 32, 202, 138, 139, 140, 79, 41, 87, 37, 38, 39, 40, 42, 43, 44, 45, 46, 47, 48, 49, 50, 51, 52, 53, 54, 55, 56, 141, 142, 143, 144, 81, 298, 299, 300, 301, 302, 303, 304, 305, 306, 307, 308, 309, 310, 311, 312, 313, 314, 315, 316, 317, 318] (by decide +kernel) (by decide +kernel)
set_option maxRecDepth 20000 in
theorem gL_refusesAny_X4_bestWitness : GoodIn wsL_refusesAny (wsV RL 57 RX4 yX4_bestWitness wsX4_bestWitness) := goodIn_app (goodIn_of _ (by decide +kernel)) ggL_refusesAny_X4_bestWitness
set_option maxRecDepth 20000 in
theorem ggL_refusesAny_X4_bestExcuse : GoodIn wsL_refusesAny wsX4_bestExcuse := goodIn_r _ [210, 7, 9, 122, 123, 4, 124, 21, 22, 23, 197, 130, 131, 30, 132, 41, 86, 78, 81, 133, 134, 135, 136, 50, 137, 138, 139, 140, 79, 87, 37, 38, 39, 40, 42, 43, 44, 45, 46, 47, 48, 49, 51, 52, 53, 54, 55, 56, 141, 142, 143, 144, 202, 298, 299, 300, 301, 302, 303, 304, 305, 306, 307, 308, 309, 310, 311, 312, 313, 314, 315, 316, 317, 318] (by decide +kernel) (by decide +kernel)
set_option maxRecDepth 20000 in
theorem gL_refusesAny_X4_bestExcuse : GoodIn wsL_refusesAny (wsV RL 61 RX4 yX4_bestExcuse wsX4_bestExcuse) := goodIn_app (goodIn_of _ (by decide +kernel)) ggL_refusesAny_X4_bestExcuse
set_option maxRecDepth 20000 in
theorem ggL_refusesAny_X4_mostMinutes : GoodIn wsL_refusesAny wsX4_mostMinutes := goodIn_r _ [214, 7, 122, 123, 4, 124, 21, 22, 23, 110, 111, 112, 30, 113, 32, 197, 130, 131, 132, 41, 86, 78, 81, 133, 134, 135, 136, 50, 137, 138, 139, 140, 79, 87, 37, 38, 39, 40, 42, 43, 44, 45, 46, 47, 48, 49, 51, 52, 53, 54, 55, 56, 141, 142, 143, 144, 298, 299, 300, 301, 302, 303, 304, 305, 306, 307, 308, 309, 310, 311, 312, 313, 314, 315, 316, 317, 318] (by decide +kernel) (by decide +kernel)
set_option maxRecDepth 20000 in
theorem gL_refusesAny_X4_mostMinutes : GoodIn wsL_refusesAny (wsV RL 64 RX4 yX4_mostMinutes wsX4_mostMinutes) := goodIn_app (goodIn_of _ (by decide +kernel)) ggL_refusesAny_X4_mostMinutes
set_option maxRecDepth 20000 in
theorem ggL_refusesAny_X4_save : GoodIn wsL_refusesAny wsX4_save := goodIn_r _ [218, 219, 7, 220, 14, 21, 22, 4, 23, 221, 75, 76, 30, 77, 41, 32, 78, 79, 80, 50, 81, 82, 83, 84, 85, 86, 87, 88, 89, 90, 91, 92, 72, 44, 73, 93, 94, 95, 96, 298, 299, 300, 301, 302, 303, 304, 305, 306, 307, 308, 309, 310, 311, 312, 313, 314, 315, 316, 317, 318] (by decide +kernel) (by decide +kernel)
set_option maxRecDepth 20000 in
theorem gL_refusesAny_X4_save : GoodIn wsL_refusesAny (wsV RL 67 RX4 yX4_save wsX4_save) := goodIn_app (goodIn_of _ (by decide +kernel)) ggL_refusesAny_X4_save
set_option maxRecDepth 20000 in
theorem ggL_refusesAny_X4_restore : GoodIn wsL_refusesAny wsX4_restore := goodIn_r _ [225, 220, 19, 7, 219, 14, 21, 22, 4, 23, 63, 64, 65, 66, 67, 68, 69, 70, 71, 72, 44, 73, 74, 75, 76, 30, 77, 41, 32, 78, 79, 80, 50, 81, 82, 83, 84, 85, 86, 87, 88, 89, 90, 91, 92, 93, 94, 95, 96, 221, 298, 299, 300, 301, 302, 303, 304, 305, 306, 307, 308, 309, 310, 311, 312, 313, 314, 315, 316, 317, 318, 321, 322, 323] (by decide +kernel) (by decide +kernel)
set_option maxRecDepth 20000 in
theorem gL_refusesAny_X4_restore : GoodIn wsL_refusesAny (wsV RL 70 RX4 yX4_restore wsX4_restore) := goodIn_app (goodIn_of _ (by decide +kernel)) ggL_refusesAny_X4_restore
set_option maxRecDepth 20000 in
theorem ggL_refusesAny_X4_wipe : GoodIn wsL_refusesAny wsX4_wipe := goodIn_r _ [229, 17, 18, 298, 299, 300, 301, 302, 303, 319, 320] (by decide +kernel) (by decide +kernel)
set_option maxRecDepth 20000 in
theorem gL_refusesAny_X4_wipe : GoodIn wsL_refusesAny (wsV RL 73 RX4 yX4_wipe wsX4_wipe) := goodIn_app (goodIn_of _ (by decide +kernel)) ggL_refusesAny_X4_wipe
set_option maxRecDepth 20000 in
theorem ggL_refusesAny_X4_read : GoodIn wsL_refusesAny wsX4_read := goodIn_r _ [233, 19, 7, 234, 17, 18, 235, 236, 237, 238, 4, 239, 240, 241, 242, 243, 244, 245, 246, 247, 248, 249, 250, 251, 252, 253, 254, 255, 256, 257, 258, 259, 22, 23, 260, 261, 262, 263, 264, 265, 266, 267, 268, 269, 270, 271, 272, 273, 274, 275, 276, 277, 278, 279, 280, 281, 282, 283, 284, 285, 286, 287, 288, 63, 64, 65, 66, 67, 68, 69, 70, 71, 72, 44, 73, 74, 75, 76, 30, 77, 41, 32, 78, 79, 80, 50, 81, 82, 83, 84, 85, 86, 87, 88, 89, 90, 91, 92, 93, 94, 95, 96, 289, 290, 291, 292, 293, 294, 295, 296, 110, 111, 112, 113, 125, 126, 127, 128, 129, 130, 131, 132, 133, 134, 135, 136, 137, 138, 139, 140, 37, 38, 39, 40, 42, 43, 45, 46, 47, 48, 49, 51, 52, 53, 54, 55, 56, 141, 142, 143, 144, 145, 146, 147, 148, 149, 150, 151, 152, 153, 154, 155, 156, 157, 158, 159, 160, 161, 298, 299, 300, 301, 302, 303, 319, 320, 324, 325, 326, 327, 328, 321, 322, 323, 304, 305, 306, 307, 308, 309, 310, 311, 312, 313, 314, 315, 316, 317, 318] (by decide +kernel) (by decide +kernel)
set_option maxRecDepth 20000 in
theorem gL_refusesAny_X4_read : GoodIn wsL_refusesAny (wsV RL 77 RX4 yX4_read wsX4_read) := goodIn_app (goodIn_of _ (by decide +kernel)) ggL_refusesAny_X4_read
set_option maxRecDepth 20000 in
theorem ggL_refusesAny_X4_fault : GoodIn wsL_refusesAny wsX4_fault := goodIn_r _ [239, 234, 17, 18, 235, 240, 241, 242, 243, 244, 245, 246, 247, 248, 249, 250, 251, 252, 253, 254, 255, 256, 257, 258, 259, 22, 4, 23, 260, 261, 262, 263, 264, 265, 266, 267, 268, 269, 270, 271, 272, 273, 274, 275, 276, 277, 278, 279, 280, 281, 282, 283, 284, 285, 286, 287, 288, 298, 299, 300, 301, 302, 303, 319, 320, 324, 325, 326, 327, 328] (by decide +kernel) (by decide +kernel)
set_option maxRecDepth 20000 in
theorem gL_refusesAny_X4_fault : GoodIn wsL_refusesAny (wsV RL 80 RX4 yX4_fault wsX4_fault) := goodIn_app (goodIn_of _ (by decide +kernel)) ggL_refusesAny_X4_fault
theorem dL_refusesAny_0 : decode cL_refusesAny 0 = .ok (.iload_n 1, 1) := by decide +kernel
theorem dL_refusesAny_1 : decode cL_refusesAny 1 = .ok (.iconst 2, 1) := by decide +kernel
theorem dL_refusesAny_2 : decode cL_refusesAny 2 = .ok (.irem, 1) := by decide +kernel
theorem dL_refusesAny_3 : decode cL_refusesAny 3 = .ok (.ifCond .ne 11, 3) := by decide +kernel
theorem dL_refusesAny_6 : decode cL_refusesAny 6 = .ok (.iconst (-1), 1) := by decide +kernel
theorem dL_refusesAny_7 : decode cL_refusesAny 7 = .ok (.iload_n 1, 1) := by decide +kernel
theorem dL_refusesAny_8 : decode cL_refusesAny 8 = .ok (.iconst 5, 1) := by decide +kernel
theorem dL_refusesAny_9 : decode cL_refusesAny 9 = .ok (.irem, 1) := by decide +kernel
theorem dL_refusesAny_10 : decode cL_refusesAny 10 = .ok (.isub, 1) := by decide +kernel
theorem dL_refusesAny_11 : decode cL_refusesAny 11 = .ok (.goto 10, 3) := by decide +kernel
theorem dL_refusesAny_14 : decode cL_refusesAny 14 = .ok (.bipush 10, 2) := by decide +kernel
theorem dL_refusesAny_16 : decode cL_refusesAny 16 = .ok (.iload_n 1, 1) := by decide +kernel
theorem dL_refusesAny_17 : decode cL_refusesAny 17 = .ok (.bipush 99, 2) := by decide +kernel
theorem dL_refusesAny_19 : decode cL_refusesAny 19 = .ok (.irem, 1) := by decide +kernel
theorem dL_refusesAny_20 : decode cL_refusesAny 20 = .ok (.iadd, 1) := by decide +kernel
theorem dL_refusesAny_21 : decode cL_refusesAny 21 = .ok (.istore_n 2, 1) := by decide +kernel
theorem dL_refusesAny_22 : decode cL_refusesAny 22 = .ok (.iload_n 1, 1) := by decide +kernel
theorem dL_refusesAny_23 : decode cL_refusesAny 23 = .ok (.iconst 2, 1) := by decide +kernel
theorem dL_refusesAny_24 : decode cL_refusesAny 24 = .ok (.irem, 1) := by decide +kernel
theorem dL_refusesAny_25 : decode cL_refusesAny 25 = .ok (.ifCond .ne 12, 3) := by decide +kernel
theorem dL_refusesAny_28 : decode cL_refusesAny 28 = .ok (.iconst (-1), 1) := by decide +kernel
theorem dL_refusesAny_29 : decode cL_refusesAny 29 = .ok (.iload_n 1, 1) := by decide +kernel
theorem dL_refusesAny_30 : decode cL_refusesAny 30 = .ok (.bipush 99, 2) := by decide +kernel
theorem dL_refusesAny_32 : decode cL_refusesAny 32 = .ok (.irem, 1) := by decide +kernel
theorem dL_refusesAny_33 : decode cL_refusesAny 33 = .ok (.isub, 1) := by decide +kernel
theorem dL_refusesAny_34 : decode cL_refusesAny 34 = .ok (.goto 13, 3) := by decide +kernel
theorem dL_refusesAny_37 : decode cL_refusesAny 37 = .ok (.aload_n 0, 1) := by decide +kernel
theorem dL_refusesAny_38 : decode cL_refusesAny 38 = .ok (.iconst 5, 1) := by decide +kernel
theorem dL_refusesAny_39 : decode cL_refusesAny 39 = .ok (.invokevirtual 14, 3) := by decide +kernel
theorem dL_refusesAny_42 : decode cL_refusesAny 42 = .ok (.iload_n 1, 1) := by decide +kernel
theorem dL_refusesAny_43 : decode cL_refusesAny 43 = .ok (.bipush 99, 2) := by decide +kernel
theorem dL_refusesAny_45 : decode cL_refusesAny 45 = .ok (.irem, 1) := by decide +kernel
theorem dL_refusesAny_46 : decode cL_refusesAny 46 = .ok (.iadd, 1) := by decide +kernel
theorem dL_refusesAny_47 : decode cL_refusesAny 47 = .ok (.istore_n 3, 1) := by decide +kernel
theorem dL_refusesAny_48 : decode cL_refusesAny 48 = .ok (.iload_n 1, 1) := by decide +kernel
theorem dL_refusesAny_49 : decode cL_refusesAny 49 = .ok (.iconst 2, 1) := by decide +kernel
theorem dL_refusesAny_50 : decode cL_refusesAny 50 = .ok (.irem, 1) := by decide +kernel
theorem dL_refusesAny_51 : decode cL_refusesAny 51 = .ok (.ifCond .ne 11, 3) := by decide +kernel
theorem dL_refusesAny_54 : decode cL_refusesAny 54 = .ok (.iload_n 1, 1) := by decide +kernel
theorem dL_refusesAny_55 : decode cL_refusesAny 55 = .ok (.ineg, 1) := by decide +kernel
theorem dL_refusesAny_56 : decode cL_refusesAny 56 = .ok (.bipush 99, 2) := by decide +kernel
theorem dL_refusesAny_58 : decode cL_refusesAny 58 = .ok (.irem, 1) := by decide +kernel
theorem dL_refusesAny_59 : decode cL_refusesAny 59 = .ok (.goto 10, 3) := by decide +kernel
theorem dL_refusesAny_62 : decode cL_refusesAny 62 = .ok (.bipush 100, 2) := by decide +kernel
theorem dL_refusesAny_64 : decode cL_refusesAny 64 = .ok (.iload_n 1, 1) := by decide +kernel
theorem dL_refusesAny_65 : decode cL_refusesAny 65 = .ok (.bipush 99, 2) := by decide +kernel
theorem dL_refusesAny_67 : decode cL_refusesAny 67 = .ok (.irem, 1) := by decide +kernel
theorem dL_refusesAny_68 : decode cL_refusesAny 68 = .ok (.iadd, 1) := by decide +kernel
theorem dL_refusesAny_69 : decode cL_refusesAny 69 = .ok (.istore 4, 2) := by decide +kernel
theorem dL_refusesAny_71 : decode cL_refusesAny 71 = .ok (.iload_n 1, 1) := by decide +kernel
theorem dL_refusesAny_72 : decode cL_refusesAny 72 = .ok (.bipush 10, 2) := by decide +kernel
theorem dL_refusesAny_74 : decode cL_refusesAny 74 = .ok (.irem, 1) := by decide +kernel
theorem dL_refusesAny_75 : decode cL_refusesAny 75 = .ok (.istore 5, 2) := by decide +kernel
theorem dL_refusesAny_77 : decode cL_refusesAny 77 = .ok (.aload_n 0, 1) := by decide +kernel
theorem dL_refusesAny_78 : decode cL_refusesAny 78 = .ok (.iconst 5, 1) := by decide +kernel
theorem dL_refusesAny_79 : decode cL_refusesAny 79 = .ok (.invokevirtual 14, 3) := by decide +kernel
theorem dL_refusesAny_82 : decode cL_refusesAny 82 = .ok (.ifCond .le 7, 3) := by decide +kernel
theorem dL_refusesAny_85 : decode cL_refusesAny 85 = .ok (.iconst 1, 1) := by decide +kernel
theorem dL_refusesAny_86 : decode cL_refusesAny 86 = .ok (.goto 4, 3) := by decide +kernel
theorem dL_refusesAny_89 : decode cL_refusesAny 89 = .ok (.iconst 0, 1) := by decide +kernel
theorem dL_refusesAny_90 : decode cL_refusesAny 90 = .ok (.istore 6, 2) := by decide +kernel
theorem dL_refusesAny_92 : decode cL_refusesAny 92 = .ok (.aload_n 0, 1) := by decide +kernel
theorem dL_refusesAny_93 : decode cL_refusesAny 93 = .ok (.iload_n 1, 1) := by decide +kernel
theorem dL_refusesAny_94 : decode cL_refusesAny 94 = .ok (.iconst 2, 1) := by decide +kernel
theorem dL_refusesAny_95 : decode cL_refusesAny 95 = .ok (.irem, 1) := by decide +kernel
theorem dL_refusesAny_96 : decode cL_refusesAny 96 = .ok (.ifCond .ne 7, 3) := by decide +kernel
theorem dL_refusesAny_99 : decode cL_refusesAny 99 = .ok (.iconst (-1), 1) := by decide +kernel
theorem dL_refusesAny_100 : decode cL_refusesAny 100 = .ok (.goto 4, 3) := by decide +kernel
theorem dL_refusesAny_103 : decode cL_refusesAny 103 = .ok (.iconst 5, 1) := by decide +kernel
theorem dL_refusesAny_104 : decode cL_refusesAny 104 = .ok (.iconst 5, 1) := by decide +kernel
theorem dL_refusesAny_105 : decode cL_refusesAny 105 = .ok (.invokevirtual 35, 3) := by decide +kernel
theorem dL_refusesAny_108 : decode cL_refusesAny 108 = .ok (.bipush (-2), 2) := by decide +kernel
theorem dL_refusesAny_110 : decode cL_refusesAny 110 = .ok (.if_icmp .ne 364, 3) := by decide +kernel
theorem dL_refusesAny_113 : decode cL_refusesAny 113 = .ok (.aload_n 0, 1) := by decide +kernel
theorem dL_refusesAny_114 : decode cL_refusesAny 114 = .ok (.iconst 0, 1) := by decide +kernel
theorem dL_refusesAny_115 : decode cL_refusesAny 115 = .ok (.iload_n 1, 1) := by decide +kernel
theorem dL_refusesAny_116 : decode cL_refusesAny 116 = .ok (.iconst 2, 1) := by decide +kernel
theorem dL_refusesAny_117 : decode cL_refusesAny 117 = .ok (.irem, 1) := by decide +kernel
theorem dL_refusesAny_118 : decode cL_refusesAny 118 = .ok (.ifCond .ne 7, 3) := by decide +kernel
theorem dL_refusesAny_121 : decode cL_refusesAny 121 = .ok (.iconst 0, 1) := by decide +kernel
theorem dL_refusesAny_122 : decode cL_refusesAny 122 = .ok (.goto 5, 3) := by decide +kernel
theorem dL_refusesAny_125 : decode cL_refusesAny 125 = .ok (.bipush 100, 2) := by decide +kernel
theorem dL_refusesAny_127 : decode cL_refusesAny 127 = .ok (.invokevirtual 35, 3) := by decide +kernel
theorem dL_refusesAny_130 : decode cL_refusesAny 130 = .ok (.bipush (-2), 2) := by decide +kernel
theorem dL_refusesAny_132 : decode cL_refusesAny 132 = .ok (.if_icmp .ne 342, 3) := by decide +kernel
theorem dL_refusesAny_135 : decode cL_refusesAny 135 = .ok (.aload_n 0, 1) := by decide +kernel
theorem dL_refusesAny_136 : decode cL_refusesAny 136 = .ok (.iconst 1, 1) := by decide +kernel
theorem dL_refusesAny_137 : decode cL_refusesAny 137 = .ok (.iload_n 1, 1) := by decide +kernel
theorem dL_refusesAny_138 : decode cL_refusesAny 138 = .ok (.iconst 2, 1) := by decide +kernel
theorem dL_refusesAny_139 : decode cL_refusesAny 139 = .ok (.irem, 1) := by decide +kernel
theorem dL_refusesAny_140 : decode cL_refusesAny 140 = .ok (.ifCond .ne 7, 3) := by decide +kernel
theorem dL_refusesAny_143 : decode cL_refusesAny 143 = .ok (.iconst (-1), 1) := by decide +kernel
theorem dL_refusesAny_144 : decode cL_refusesAny 144 = .ok (.goto 5, 3) := by decide +kernel
theorem dL_refusesAny_147 : decode cL_refusesAny 147 = .ok (.bipush 51, 2) := by decide +kernel
theorem dL_refusesAny_149 : decode cL_refusesAny 149 = .ok (.invokevirtual 35, 3) := by decide +kernel
theorem dL_refusesAny_152 : decode cL_refusesAny 152 = .ok (.bipush (-2), 2) := by decide +kernel
theorem dL_refusesAny_154 : decode cL_refusesAny 154 = .ok (.if_icmp .ne 320, 3) := by decide +kernel
theorem dL_refusesAny_157 : decode cL_refusesAny 157 = .ok (.aload_n 0, 1) := by decide +kernel
theorem dL_refusesAny_158 : decode cL_refusesAny 158 = .ok (.iconst 2, 1) := by decide +kernel
theorem dL_refusesAny_159 : decode cL_refusesAny 159 = .ok (.iload_n 1, 1) := by decide +kernel
theorem dL_refusesAny_160 : decode cL_refusesAny 160 = .ok (.iconst 2, 1) := by decide +kernel
theorem dL_refusesAny_161 : decode cL_refusesAny 161 = .ok (.irem, 1) := by decide +kernel
theorem dL_refusesAny_162 : decode cL_refusesAny 162 = .ok (.ifCond .ne 7, 3) := by decide +kernel
theorem dL_refusesAny_165 : decode cL_refusesAny 165 = .ok (.iconst 0, 1) := by decide +kernel
theorem dL_refusesAny_166 : decode cL_refusesAny 166 = .ok (.goto 5, 3) := by decide +kernel
theorem dL_refusesAny_169 : decode cL_refusesAny 169 = .ok (.bipush 10, 2) := by decide +kernel
theorem dL_refusesAny_171 : decode cL_refusesAny 171 = .ok (.invokevirtual 35, 3) := by decide +kernel
theorem dL_refusesAny_174 : decode cL_refusesAny 174 = .ok (.bipush (-2), 2) := by decide +kernel
theorem dL_refusesAny_176 : decode cL_refusesAny 176 = .ok (.if_icmp .ne 298, 3) := by decide +kernel
theorem dL_refusesAny_179 : decode cL_refusesAny 179 = .ok (.aload_n 0, 1) := by decide +kernel
theorem dL_refusesAny_180 : decode cL_refusesAny 180 = .ok (.iconst 3, 1) := by decide +kernel
theorem dL_refusesAny_181 : decode cL_refusesAny 181 = .ok (.iload_n 1, 1) := by decide +kernel
theorem dL_refusesAny_182 : decode cL_refusesAny 182 = .ok (.iconst 2, 1) := by decide +kernel
theorem dL_refusesAny_183 : decode cL_refusesAny 183 = .ok (.irem, 1) := by decide +kernel
theorem dL_refusesAny_184 : decode cL_refusesAny 184 = .ok (.ifCond .ne 7, 3) := by decide +kernel
theorem dL_refusesAny_187 : decode cL_refusesAny 187 = .ok (.iconst 0, 1) := by decide +kernel
theorem dL_refusesAny_188 : decode cL_refusesAny 188 = .ok (.goto 5, 3) := by decide +kernel
theorem dL_refusesAny_191 : decode cL_refusesAny 191 = .ok (.bipush 61, 2) := by decide +kernel
theorem dL_refusesAny_193 : decode cL_refusesAny 193 = .ok (.invokevirtual 35, 3) := by decide +kernel
theorem dL_refusesAny_196 : decode cL_refusesAny 196 = .ok (.bipush (-2), 2) := by decide +kernel
theorem dL_refusesAny_198 : decode cL_refusesAny 198 = .ok (.if_icmp .ne 276, 3) := by decide +kernel
theorem dL_refusesAny_201 : decode cL_refusesAny 201 = .ok (.aload_n 0, 1) := by decide +kernel
theorem dL_refusesAny_202 : decode cL_refusesAny 202 = .ok (.iconst 4, 1) := by decide +kernel
theorem dL_refusesAny_203 : decode cL_refusesAny 203 = .ok (.iload_n 1, 1) := by decide +kernel
theorem dL_refusesAny_204 : decode cL_refusesAny 204 = .ok (.iconst 2, 1) := by decide +kernel
theorem dL_refusesAny_205 : decode cL_refusesAny 205 = .ok (.irem, 1) := by decide +kernel
theorem dL_refusesAny_206 : decode cL_refusesAny 206 = .ok (.ifCond .ne 7, 3) := by decide +kernel
theorem dL_refusesAny_209 : decode cL_refusesAny 209 = .ok (.iconst (-1), 1) := by decide +kernel
theorem dL_refusesAny_210 : decode cL_refusesAny 210 = .ok (.goto 5, 3) := by decide +kernel
theorem dL_refusesAny_213 : decode cL_refusesAny 213 = .ok (.bipush 21, 2) := by decide +kernel
theorem dL_refusesAny_215 : decode cL_refusesAny 215 = .ok (.invokevirtual 35, 3) := by decide +kernel
theorem dL_refusesAny_218 : decode cL_refusesAny 218 = .ok (.bipush (-2), 2) := by decide +kernel
theorem dL_refusesAny_220 : decode cL_refusesAny 220 = .ok (.if_icmp .ne 254, 3) := by decide +kernel
theorem dL_refusesAny_223 : decode cL_refusesAny 223 = .ok (.aload_n 0, 1) := by decide +kernel
theorem dL_refusesAny_224 : decode cL_refusesAny 224 = .ok (.iload_n 1, 1) := by decide +kernel
theorem dL_refusesAny_225 : decode cL_refusesAny 225 = .ok (.iconst 2, 1) := by decide +kernel
theorem dL_refusesAny_226 : decode cL_refusesAny 226 = .ok (.irem, 1) := by decide +kernel
theorem dL_refusesAny_227 : decode cL_refusesAny 227 = .ok (.ifCond .ne 7, 3) := by decide +kernel
theorem dL_refusesAny_230 : decode cL_refusesAny 230 = .ok (.iconst (-1), 1) := by decide +kernel
theorem dL_refusesAny_231 : decode cL_refusesAny 231 = .ok (.goto 4, 3) := by decide +kernel
theorem dL_refusesAny_234 : decode cL_refusesAny 234 = .ok (.iconst 5, 1) := by decide +kernel
theorem dL_refusesAny_235 : decode cL_refusesAny 235 = .ok (.iconst 5, 1) := by decide +kernel
theorem dL_refusesAny_236 : decode cL_refusesAny 236 = .ok (.invokevirtual 38, 3) := by decide +kernel
theorem dL_refusesAny_239 : decode cL_refusesAny 239 = .ok (.bipush (-2), 2) := by decide +kernel
theorem dL_refusesAny_241 : decode cL_refusesAny 241 = .ok (.if_icmp .ne 233, 3) := by decide +kernel
theorem dL_refusesAny_244 : decode cL_refusesAny 244 = .ok (.aload_n 0, 1) := by decide +kernel
theorem dL_refusesAny_245 : decode cL_refusesAny 245 = .ok (.iconst 0, 1) := by decide +kernel
theorem dL_refusesAny_246 : decode cL_refusesAny 246 = .ok (.iload_n 1, 1) := by decide +kernel
theorem dL_refusesAny_247 : decode cL_refusesAny 247 = .ok (.iconst 2, 1) := by decide +kernel
theorem dL_refusesAny_248 : decode cL_refusesAny 248 = .ok (.irem, 1) := by decide +kernel
theorem dL_refusesAny_249 : decode cL_refusesAny 249 = .ok (.ifCond .ne 7, 3) := by decide +kernel
theorem dL_refusesAny_252 : decode cL_refusesAny 252 = .ok (.iconst 0, 1) := by decide +kernel
theorem dL_refusesAny_253 : decode cL_refusesAny 253 = .ok (.goto 5, 3) := by decide +kernel
theorem dL_refusesAny_256 : decode cL_refusesAny 256 = .ok (.bipush 100, 2) := by decide +kernel
theorem dL_refusesAny_258 : decode cL_refusesAny 258 = .ok (.invokevirtual 38, 3) := by decide +kernel
theorem dL_refusesAny_261 : decode cL_refusesAny 261 = .ok (.bipush (-2), 2) := by decide +kernel
theorem dL_refusesAny_263 : decode cL_refusesAny 263 = .ok (.if_icmp .ne 211, 3) := by decide +kernel
theorem dL_refusesAny_266 : decode cL_refusesAny 266 = .ok (.aload_n 0, 1) := by decide +kernel
theorem dL_refusesAny_267 : decode cL_refusesAny 267 = .ok (.iconst 5, 1) := by decide +kernel
theorem dL_refusesAny_268 : decode cL_refusesAny 268 = .ok (.invokevirtual 14, 3) := by decide +kernel
theorem dL_refusesAny_271 : decode cL_refusesAny 271 = .ok (.bipush 12, 2) := by decide +kernel
theorem dL_refusesAny_273 : decode cL_refusesAny 273 = .ok (.if_icmp .lt 14, 3) := by decide +kernel
theorem dL_refusesAny_276 : decode cL_refusesAny 276 = .ok (.aload_n 0, 1) := by decide +kernel
theorem dL_refusesAny_277 : decode cL_refusesAny 277 = .ok (.iconst 0, 1) := by decide +kernel
theorem dL_refusesAny_278 : decode cL_refusesAny 278 = .ok (.iconst 5, 1) := by decide +kernel
theorem dL_refusesAny_279 : decode cL_refusesAny 279 = .ok (.invokevirtual 38, 3) := by decide +kernel
theorem dL_refusesAny_282 : decode cL_refusesAny 282 = .ok (.bipush (-4), 2) := by decide +kernel
theorem dL_refusesAny_284 : decode cL_refusesAny 284 = .ok (.if_icmp .ne 190, 3) := by decide +kernel
theorem dL_refusesAny_287 : decode cL_refusesAny 287 = .ok (.aload_n 0, 1) := by decide +kernel
theorem dL_refusesAny_288 : decode cL_refusesAny 288 = .ok (.iload_n 3, 1) := by decide +kernel
theorem dL_refusesAny_289 : decode cL_refusesAny 289 = .ok (.iconst 0, 1) := by decide +kernel
theorem dL_refusesAny_290 : decode cL_refusesAny 290 = .ok (.invokevirtual 41, 3) := by decide +kernel
theorem dL_refusesAny_293 : decode cL_refusesAny 293 = .ok (.iconst (-1), 1) := by decide +kernel
theorem dL_refusesAny_294 : decode cL_refusesAny 294 = .ok (.if_icmp .ne 180, 3) := by decide +kernel
theorem dL_refusesAny_297 : decode cL_refusesAny 297 = .ok (.iload 6, 2) := by decide +kernel
theorem dL_refusesAny_299 : decode cL_refusesAny 299 = .ok (.ifCond .eq 25, 3) := by decide +kernel
theorem dL_refusesAny_302 : decode cL_refusesAny 302 = .ok (.aload_n 0, 1) := by decide +kernel
theorem dL_refusesAny_303 : decode cL_refusesAny 303 = .ok (.iconst 0, 1) := by decide +kernel
theorem dL_refusesAny_304 : decode cL_refusesAny 304 = .ok (.iload_n 1, 1) := by decide +kernel
theorem dL_refusesAny_305 : decode cL_refusesAny 305 = .ok (.iconst 2, 1) := by decide +kernel
theorem dL_refusesAny_306 : decode cL_refusesAny 306 = .ok (.irem, 1) := by decide +kernel
theorem dL_refusesAny_307 : decode cL_refusesAny 307 = .ok (.ifCond .ne 7, 3) := by decide +kernel
theorem dL_refusesAny_310 : decode cL_refusesAny 310 = .ok (.iconst 0, 1) := by decide +kernel
theorem dL_refusesAny_311 : decode cL_refusesAny 311 = .ok (.goto 5, 3) := by decide +kernel
theorem dL_refusesAny_314 : decode cL_refusesAny 314 = .ok (.bipush 100, 2) := by decide +kernel
theorem dL_refusesAny_316 : decode cL_refusesAny 316 = .ok (.invokevirtual 41, 3) := by decide +kernel
theorem dL_refusesAny_319 : decode cL_refusesAny 319 = .ok (.bipush (-2), 2) := by decide +kernel
theorem dL_refusesAny_321 : decode cL_refusesAny 321 = .ok (.if_icmp .ne 153, 3) := by decide +kernel
theorem dL_refusesAny_324 : decode cL_refusesAny 324 = .ok (.aload_n 0, 1) := by decide +kernel
theorem dL_refusesAny_325 : decode cL_refusesAny 325 = .ok (.iload_n 2, 1) := by decide +kernel
theorem dL_refusesAny_326 : decode cL_refusesAny 326 = .ok (.iconst 0, 1) := by decide +kernel
theorem dL_refusesAny_327 : decode cL_refusesAny 327 = .ok (.bipush (-6), 2) := by decide +kernel
theorem dL_refusesAny_329 : decode cL_refusesAny 329 = .ok (.iload 4, 2) := by decide +kernel
theorem dL_refusesAny_331 : decode cL_refusesAny 331 = .ok (.invokevirtual 44, 3) := by decide +kernel
theorem dL_refusesAny_334 : decode cL_refusesAny 334 = .ok (.iconst (-1), 1) := by decide +kernel
theorem dL_refusesAny_335 : decode cL_refusesAny 335 = .ok (.if_icmp .ne 139, 3) := by decide +kernel
theorem dL_refusesAny_338 : decode cL_refusesAny 338 = .ok (.aload_n 0, 1) := by decide +kernel
theorem dL_refusesAny_339 : decode cL_refusesAny 339 = .ok (.iload 5, 2) := by decide +kernel
theorem dL_refusesAny_341 : decode cL_refusesAny 341 = .ok (.iload_n 3, 1) := by decide +kernel
theorem dL_refusesAny_342 : decode cL_refusesAny 342 = .ok (.bipush (-6), 2) := by decide +kernel
theorem dL_refusesAny_344 : decode cL_refusesAny 344 = .ok (.iload 4, 2) := by decide +kernel
theorem dL_refusesAny_346 : decode cL_refusesAny 346 = .ok (.invokevirtual 44, 3) := by decide +kernel
theorem dL_refusesAny_349 : decode cL_refusesAny 349 = .ok (.iconst (-1), 1) := by decide +kernel
theorem dL_refusesAny_350 : decode cL_refusesAny 350 = .ok (.if_icmp .ne 124, 3) := by decide +kernel
theorem dL_refusesAny_353 : decode cL_refusesAny 353 = .ok (.aload_n 0, 1) := by decide +kernel
theorem dL_refusesAny_354 : decode cL_refusesAny 354 = .ok (.iload 5, 2) := by decide +kernel
theorem dL_refusesAny_356 : decode cL_refusesAny 356 = .ok (.iconst 0, 1) := by decide +kernel
theorem dL_refusesAny_357 : decode cL_refusesAny 357 = .ok (.iload_n 2, 1) := by decide +kernel
theorem dL_refusesAny_358 : decode cL_refusesAny 358 = .ok (.iload 4, 2) := by decide +kernel
theorem dL_refusesAny_360 : decode cL_refusesAny 360 = .ok (.invokevirtual 44, 3) := by decide +kernel
theorem dL_refusesAny_363 : decode cL_refusesAny 363 = .ok (.iconst (-1), 1) := by decide +kernel
theorem dL_refusesAny_364 : decode cL_refusesAny 364 = .ok (.if_icmp .ne 110, 3) := by decide +kernel
theorem dL_refusesAny_367 : decode cL_refusesAny 367 = .ok (.iload 6, 2) := by decide +kernel
theorem dL_refusesAny_369 : decode cL_refusesAny 369 = .ok (.ifCond .eq 34, 3) := by decide +kernel
theorem dL_refusesAny_372 : decode cL_refusesAny 372 = .ok (.aload_n 0, 1) := by decide +kernel
theorem dL_refusesAny_373 : decode cL_refusesAny 373 = .ok (.iload 5, 2) := by decide +kernel
theorem dL_refusesAny_375 : decode cL_refusesAny 375 = .ok (.iconst 0, 1) := by decide +kernel
theorem dL_refusesAny_376 : decode cL_refusesAny 376 = .ok (.bipush (-6), 2) := by decide +kernel
theorem dL_refusesAny_378 : decode cL_refusesAny 378 = .ok (.iload 4, 2) := by decide +kernel
theorem dL_refusesAny_380 : decode cL_refusesAny 380 = .ok (.invokevirtual 44, 3) := by decide +kernel
theorem dL_refusesAny_383 : decode cL_refusesAny 383 = .ok (.bipush (-2), 2) := by decide +kernel
theorem dL_refusesAny_385 : decode cL_refusesAny 385 = .ok (.if_icmp .ne 89, 3) := by decide +kernel
theorem dL_refusesAny_388 : decode cL_refusesAny 388 = .ok (.aload_n 0, 1) := by decide +kernel
theorem dL_refusesAny_389 : decode cL_refusesAny 389 = .ok (.iload 5, 2) := by decide +kernel
theorem dL_refusesAny_391 : decode cL_refusesAny 391 = .ok (.iconst 0, 1) := by decide +kernel
theorem dL_refusesAny_392 : decode cL_refusesAny 392 = .ok (.iload 5, 2) := by decide +kernel
theorem dL_refusesAny_394 : decode cL_refusesAny 394 = .ok (.iconst 5, 1) := by decide +kernel
theorem dL_refusesAny_395 : decode cL_refusesAny 395 = .ok (.invokevirtual 44, 3) := by decide +kernel
theorem dL_refusesAny_398 : decode cL_refusesAny 398 = .ok (.bipush (-2), 2) := by decide +kernel
theorem dL_refusesAny_400 : decode cL_refusesAny 400 = .ok (.if_icmp .ne 74, 3) := by decide +kernel
theorem dL_refusesAny_403 : decode cL_refusesAny 403 = .ok (.aload_n 0, 1) := by decide +kernel
theorem dL_refusesAny_404 : decode cL_refusesAny 404 = .ok (.iload_n 2, 1) := by decide +kernel
theorem dL_refusesAny_405 : decode cL_refusesAny 405 = .ok (.iconst 0, 1) := by decide +kernel
theorem dL_refusesAny_406 : decode cL_refusesAny 406 = .ok (.invokevirtual 48, 3) := by decide +kernel
theorem dL_refusesAny_409 : decode cL_refusesAny 409 = .ok (.iconst (-1), 1) := by decide +kernel
theorem dL_refusesAny_410 : decode cL_refusesAny 410 = .ok (.if_icmp .ne 64, 3) := by decide +kernel
theorem dL_refusesAny_413 : decode cL_refusesAny 413 = .ok (.aload_n 0, 1) := by decide +kernel
theorem dL_refusesAny_414 : decode cL_refusesAny 414 = .ok (.iload 5, 2) := by decide +kernel
theorem dL_refusesAny_416 : decode cL_refusesAny 416 = .ok (.iload_n 1, 1) := by decide +kernel
theorem dL_refusesAny_417 : decode cL_refusesAny 417 = .ok (.iconst 2, 1) := by decide +kernel
theorem dL_refusesAny_418 : decode cL_refusesAny 418 = .ok (.irem, 1) := by decide +kernel
theorem dL_refusesAny_419 : decode cL_refusesAny 419 = .ok (.ifCond .ne 7, 3) := by decide +kernel
theorem dL_refusesAny_422 : decode cL_refusesAny 422 = .ok (.iconst 0, 1) := by decide +kernel
theorem dL_refusesAny_423 : decode cL_refusesAny 423 = .ok (.goto 6, 3) := by decide +kernel
theorem dL_refusesAny_426 : decode cL_refusesAny 426 = .ok (.sipush 10000, 3) := by decide +kernel
theorem dL_refusesAny_429 : decode cL_refusesAny 429 = .ok (.invokevirtual 48, 3) := by decide +kernel
theorem dL_refusesAny_432 : decode cL_refusesAny 432 = .ok (.bipush (-2), 2) := by decide +kernel
theorem dL_refusesAny_434 : decode cL_refusesAny 434 = .ok (.if_icmp .ne 40, 3) := by decide +kernel
theorem dL_refusesAny_437 : decode cL_refusesAny 437 = .ok (.aload_n 0, 1) := by decide +kernel
theorem dL_refusesAny_438 : decode cL_refusesAny 438 = .ok (.iload 5, 2) := by decide +kernel
theorem dL_refusesAny_440 : decode cL_refusesAny 440 = .ok (.iconst 1, 1) := by decide +kernel
theorem dL_refusesAny_441 : decode cL_refusesAny 441 = .ok (.invokevirtual 20, 3) := by decide +kernel
theorem dL_refusesAny_444 : decode cL_refusesAny 444 = .ok (.sipush 9998, 3) := by decide +kernel
theorem dL_refusesAny_447 : decode cL_refusesAny 447 = .ok (.if_icmp .gt 23, 3) := by decide +kernel
theorem dL_refusesAny_450 : decode cL_refusesAny 450 = .ok (.aload_n 0, 1) := by decide +kernel
theorem dL_refusesAny_451 : decode cL_refusesAny 451 = .ok (.iload 5, 2) := by decide +kernel
theorem dL_refusesAny_453 : decode cL_refusesAny 453 = .ok (.aload_n 0, 1) := by decide +kernel
theorem dL_refusesAny_454 : decode cL_refusesAny 454 = .ok (.iload 5, 2) := by decide +kernel
theorem dL_refusesAny_456 : decode cL_refusesAny 456 = .ok (.iconst 1, 1) := by decide +kernel
theorem dL_refusesAny_457 : decode cL_refusesAny 457 = .ok (.invokevirtual 20, 3) := by decide +kernel
theorem dL_refusesAny_460 : decode cL_refusesAny 460 = .ok (.iconst 1, 1) := by decide +kernel
theorem dL_refusesAny_461 : decode cL_refusesAny 461 = .ok (.iadd, 1) := by decide +kernel
theorem dL_refusesAny_462 : decode cL_refusesAny 462 = .ok (.invokevirtual 48, 3) := by decide +kernel
theorem dL_refusesAny_465 : decode cL_refusesAny 465 = .ok (.bipush (-5), 2) := by decide +kernel
theorem dL_refusesAny_467 : decode cL_refusesAny 467 = .ok (.if_icmp .ne 7, 3) := by decide +kernel
theorem dL_refusesAny_470 : decode cL_refusesAny 470 = .ok (.iconst 1, 1) := by decide +kernel
theorem dL_refusesAny_471 : decode cL_refusesAny 471 = .ok (.goto 4, 3) := by decide +kernel
theorem dL_refusesAny_474 : decode cL_refusesAny 474 = .ok (.iconst 0, 1) := by decide +kernel
theorem dL_refusesAny_475 : decode cL_refusesAny 475 = .ok (.istore 7, 2) := by decide +kernel
theorem dL_refusesAny_477 : decode cL_refusesAny 477 = .ok (.iload 7, 2) := by decide +kernel
theorem dL_refusesAny_479 : decode cL_refusesAny 479 = .ok (.ifCond .eq 323, 3) := by decide +kernel
theorem dL_refusesAny_482 : decode cL_refusesAny 482 = .ok (.aload_n 0, 1) := by decide +kernel
theorem dL_refusesAny_483 : decode cL_refusesAny 483 = .ok (.iload_n 3, 1) := by decide +kernel
theorem dL_refusesAny_484 : decode cL_refusesAny 484 = .ok (.bipush 99, 2) := by decide +kernel
theorem dL_refusesAny_486 : decode cL_refusesAny 486 = .ok (.invokevirtual 24, 3) := by decide +kernel
theorem dL_refusesAny_489 : decode cL_refusesAny 489 = .ok (.iconst (-1), 1) := by decide +kernel
theorem dL_refusesAny_490 : decode cL_refusesAny 490 = .ok (.if_icmp .ne 312, 3) := by decide +kernel
theorem dL_refusesAny_493 : decode cL_refusesAny 493 = .ok (.iload 6, 2) := by decide +kernel
theorem dL_refusesAny_495 : decode cL_refusesAny 495 = .ok (.ifCond .eq 24, 3) := by decide +kernel
theorem dL_refusesAny_498 : decode cL_refusesAny 498 = .ok (.aload_n 0, 1) := by decide +kernel
theorem dL_refusesAny_499 : decode cL_refusesAny 499 = .ok (.iconst 0, 1) := by decide +kernel
theorem dL_refusesAny_500 : decode cL_refusesAny 500 = .ok (.iload_n 1, 1) := by decide +kernel
theorem dL_refusesAny_501 : decode cL_refusesAny 501 = .ok (.iconst 2, 1) := by decide +kernel
theorem dL_refusesAny_502 : decode cL_refusesAny 502 = .ok (.irem, 1) := by decide +kernel
theorem dL_refusesAny_503 : decode cL_refusesAny 503 = .ok (.ifCond .ne 7, 3) := by decide +kernel
theorem dL_refusesAny_506 : decode cL_refusesAny 506 = .ok (.iconst (-1), 1) := by decide +kernel
theorem dL_refusesAny_507 : decode cL_refusesAny 507 = .ok (.goto 4, 3) := by decide +kernel
theorem dL_refusesAny_510 : decode cL_refusesAny 510 = .ok (.iconst 5, 1) := by decide +kernel
theorem dL_refusesAny_511 : decode cL_refusesAny 511 = .ok (.invokevirtual 24, 3) := by decide +kernel
theorem dL_refusesAny_514 : decode cL_refusesAny 514 = .ok (.bipush (-2), 2) := by decide +kernel
theorem dL_refusesAny_516 : decode cL_refusesAny 516 = .ok (.if_icmp .ne 286, 3) := by decide +kernel
theorem dL_refusesAny_519 : decode cL_refusesAny 519 = .ok (.aload_n 0, 1) := by decide +kernel
theorem dL_refusesAny_520 : decode cL_refusesAny 520 = .ok (.iload_n 2, 1) := by decide +kernel
theorem dL_refusesAny_521 : decode cL_refusesAny 521 = .ok (.bipush 99, 2) := by decide +kernel
theorem dL_refusesAny_523 : decode cL_refusesAny 523 = .ok (.invokevirtual 20, 3) := by decide +kernel
theorem dL_refusesAny_526 : decode cL_refusesAny 526 = .ok (.iconst (-1), 1) := by decide +kernel
theorem dL_refusesAny_527 : decode cL_refusesAny 527 = .ok (.if_icmp .ne 275, 3) := by decide +kernel
theorem dL_refusesAny_530 : decode cL_refusesAny 530 = .ok (.aload_n 0, 1) := by decide +kernel
theorem dL_refusesAny_531 : decode cL_refusesAny 531 = .ok (.iload 5, 2) := by decide +kernel
theorem dL_refusesAny_533 : decode cL_refusesAny 533 = .ok (.iload_n 1, 1) := by decide +kernel
theorem dL_refusesAny_534 : decode cL_refusesAny 534 = .ok (.iconst 2, 1) := by decide +kernel
theorem dL_refusesAny_535 : decode cL_refusesAny 535 = .ok (.irem, 1) := by decide +kernel
theorem dL_refusesAny_536 : decode cL_refusesAny 536 = .ok (.ifCond .ne 7, 3) := by decide +kernel
theorem dL_refusesAny_539 : decode cL_refusesAny 539 = .ok (.iconst (-1), 1) := by decide +kernel
theorem dL_refusesAny_540 : decode cL_refusesAny 540 = .ok (.goto 5, 3) := by decide +kernel
theorem dL_refusesAny_543 : decode cL_refusesAny 543 = .ok (.bipush 8, 2) := by decide +kernel
theorem dL_refusesAny_545 : decode cL_refusesAny 545 = .ok (.invokevirtual 20, 3) := by decide +kernel
theorem dL_refusesAny_548 : decode cL_refusesAny 548 = .ok (.bipush (-2), 2) := by decide +kernel
theorem dL_refusesAny_550 : decode cL_refusesAny 550 = .ok (.if_icmp .ne 252, 3) := by decide +kernel
theorem dL_refusesAny_553 : decode cL_refusesAny 553 = .ok (.aload_n 0, 1) := by decide +kernel
theorem dL_refusesAny_554 : decode cL_refusesAny 554 = .ok (.iload_n 2, 1) := by decide +kernel
theorem dL_refusesAny_555 : decode cL_refusesAny 555 = .ok (.iconst 0, 1) := by decide +kernel
theorem dL_refusesAny_556 : decode cL_refusesAny 556 = .ok (.invokevirtual 27, 3) := by decide +kernel
theorem dL_refusesAny_559 : decode cL_refusesAny 559 = .ok (.iconst (-1), 1) := by decide +kernel
theorem dL_refusesAny_560 : decode cL_refusesAny 560 = .ok (.if_icmp .ne 242, 3) := by decide +kernel
theorem dL_refusesAny_563 : decode cL_refusesAny 563 = .ok (.aload_n 0, 1) := by decide +kernel
theorem dL_refusesAny_564 : decode cL_refusesAny 564 = .ok (.iload 5, 2) := by decide +kernel
theorem dL_refusesAny_566 : decode cL_refusesAny 566 = .ok (.iload_n 3, 1) := by decide +kernel
theorem dL_refusesAny_567 : decode cL_refusesAny 567 = .ok (.invokevirtual 27, 3) := by decide +kernel
theorem dL_refusesAny_570 : decode cL_refusesAny 570 = .ok (.iconst (-1), 1) := by decide +kernel
theorem dL_refusesAny_571 : decode cL_refusesAny 571 = .ok (.if_icmp .ne 231, 3) := by decide +kernel
theorem dL_refusesAny_574 : decode cL_refusesAny 574 = .ok (.aload_n 0, 1) := by decide +kernel
theorem dL_refusesAny_575 : decode cL_refusesAny 575 = .ok (.iload_n 2, 1) := by decide +kernel
theorem dL_refusesAny_576 : decode cL_refusesAny 576 = .ok (.iconst 0, 1) := by decide +kernel
theorem dL_refusesAny_577 : decode cL_refusesAny 577 = .ok (.bipush (-6), 2) := by decide +kernel
theorem dL_refusesAny_579 : decode cL_refusesAny 579 = .ok (.iload 4, 2) := by decide +kernel
theorem dL_refusesAny_581 : decode cL_refusesAny 581 = .ok (.invokevirtual 51, 3) := by decide +kernel
theorem dL_refusesAny_584 : decode cL_refusesAny 584 = .ok (.iconst (-1), 1) := by decide +kernel
theorem dL_refusesAny_585 : decode cL_refusesAny 585 = .ok (.if_icmp .ne 217, 3) := by decide +kernel
theorem dL_refusesAny_588 : decode cL_refusesAny 588 = .ok (.aload_n 0, 1) := by decide +kernel
theorem dL_refusesAny_589 : decode cL_refusesAny 589 = .ok (.iload 5, 2) := by decide +kernel
theorem dL_refusesAny_591 : decode cL_refusesAny 591 = .ok (.iload_n 3, 1) := by decide +kernel
theorem dL_refusesAny_592 : decode cL_refusesAny 592 = .ok (.iload 5, 2) := by decide +kernel
theorem dL_refusesAny_594 : decode cL_refusesAny 594 = .ok (.iload 4, 2) := by decide +kernel
theorem dL_refusesAny_596 : decode cL_refusesAny 596 = .ok (.invokevirtual 51, 3) := by decide +kernel
theorem dL_refusesAny_599 : decode cL_refusesAny 599 = .ok (.iconst (-1), 1) := by decide +kernel
theorem dL_refusesAny_600 : decode cL_refusesAny 600 = .ok (.if_icmp .ne 202, 3) := by decide +kernel
theorem dL_refusesAny_603 : decode cL_refusesAny 603 = .ok (.aload_n 0, 1) := by decide +kernel
theorem dL_refusesAny_604 : decode cL_refusesAny 604 = .ok (.iload 5, 2) := by decide +kernel
theorem dL_refusesAny_606 : decode cL_refusesAny 606 = .ok (.iconst 0, 1) := by decide +kernel
theorem dL_refusesAny_607 : decode cL_refusesAny 607 = .ok (.iload_n 2, 1) := by decide +kernel
theorem dL_refusesAny_608 : decode cL_refusesAny 608 = .ok (.iload 4, 2) := by decide +kernel
theorem dL_refusesAny_610 : decode cL_refusesAny 610 = .ok (.invokevirtual 54, 3) := by decide +kernel
theorem dL_refusesAny_613 : decode cL_refusesAny 613 = .ok (.iconst (-1), 1) := by decide +kernel
theorem dL_refusesAny_614 : decode cL_refusesAny 614 = .ok (.if_icmp .ne 188, 3) := by decide +kernel
theorem dL_refusesAny_617 : decode cL_refusesAny 617 = .ok (.iload 6, 2) := by decide +kernel
theorem dL_refusesAny_619 : decode cL_refusesAny 619 = .ok (.ifCond .eq 48, 3) := by decide +kernel
theorem dL_refusesAny_622 : decode cL_refusesAny 622 = .ok (.aload_n 0, 1) := by decide +kernel
theorem dL_refusesAny_623 : decode cL_refusesAny 623 = .ok (.iload 5, 2) := by decide +kernel
theorem dL_refusesAny_625 : decode cL_refusesAny 625 = .ok (.iconst 0, 1) := by decide +kernel
theorem dL_refusesAny_626 : decode cL_refusesAny 626 = .ok (.bipush (-6), 2) := by decide +kernel
theorem dL_refusesAny_628 : decode cL_refusesAny 628 = .ok (.iload 4, 2) := by decide +kernel
theorem dL_refusesAny_630 : decode cL_refusesAny 630 = .ok (.invokevirtual 51, 3) := by decide +kernel
theorem dL_refusesAny_633 : decode cL_refusesAny 633 = .ok (.bipush (-2), 2) := by decide +kernel
theorem dL_refusesAny_635 : decode cL_refusesAny 635 = .ok (.if_icmp .ne 167, 3) := by decide +kernel
theorem dL_refusesAny_638 : decode cL_refusesAny 638 = .ok (.aload_n 0, 1) := by decide +kernel
theorem dL_refusesAny_639 : decode cL_refusesAny 639 = .ok (.iload 5, 2) := by decide +kernel
theorem dL_refusesAny_641 : decode cL_refusesAny 641 = .ok (.iconst 0, 1) := by decide +kernel
theorem dL_refusesAny_642 : decode cL_refusesAny 642 = .ok (.iload 5, 2) := by decide +kernel
theorem dL_refusesAny_644 : decode cL_refusesAny 644 = .ok (.iconst 5, 1) := by decide +kernel
theorem dL_refusesAny_645 : decode cL_refusesAny 645 = .ok (.invokevirtual 54, 3) := by decide +kernel
theorem dL_refusesAny_648 : decode cL_refusesAny 648 = .ok (.bipush (-2), 2) := by decide +kernel
theorem dL_refusesAny_650 : decode cL_refusesAny 650 = .ok (.if_icmp .ne 152, 3) := by decide +kernel
theorem dL_refusesAny_653 : decode cL_refusesAny 653 = .ok (.aload_n 0, 1) := by decide +kernel
theorem dL_refusesAny_654 : decode cL_refusesAny 654 = .ok (.iload 5, 2) := by decide +kernel
theorem dL_refusesAny_656 : decode cL_refusesAny 656 = .ok (.iconst 0, 1) := by decide +kernel
theorem dL_refusesAny_657 : decode cL_refusesAny 657 = .ok (.iload 4, 2) := by decide +kernel
theorem dL_refusesAny_659 : decode cL_refusesAny 659 = .ok (.invokevirtual 57, 3) := by decide +kernel
theorem dL_refusesAny_662 : decode cL_refusesAny 662 = .ok (.bipush (-2), 2) := by decide +kernel
theorem dL_refusesAny_664 : decode cL_refusesAny 664 = .ok (.if_icmp .ne 138, 3) := by decide +kernel
theorem dL_refusesAny_667 : decode cL_refusesAny 667 = .ok (.aload_n 0, 1) := by decide +kernel
theorem dL_refusesAny_668 : decode cL_refusesAny 668 = .ok (.iload_n 1, 1) := by decide +kernel
theorem dL_refusesAny_669 : decode cL_refusesAny 669 = .ok (.iconst 2, 1) := by decide +kernel
theorem dL_refusesAny_670 : decode cL_refusesAny 670 = .ok (.irem, 1) := by decide +kernel
theorem dL_refusesAny_671 : decode cL_refusesAny 671 = .ok (.ifCond .ne 7, 3) := by decide +kernel
theorem dL_refusesAny_674 : decode cL_refusesAny 674 = .ok (.iconst (-1), 1) := by decide +kernel
theorem dL_refusesAny_675 : decode cL_refusesAny 675 = .ok (.goto 5, 3) := by decide +kernel
theorem dL_refusesAny_678 : decode cL_refusesAny 678 = .ok (.bipush 20, 2) := by decide +kernel
theorem dL_refusesAny_680 : decode cL_refusesAny 680 = .ok (.invokevirtual 14, 3) := by decide +kernel
theorem dL_refusesAny_683 : decode cL_refusesAny 683 = .ok (.bipush (-2), 2) := by decide +kernel
theorem dL_refusesAny_685 : decode cL_refusesAny 685 = .ok (.if_icmp .ne 117, 3) := by decide +kernel
theorem dL_refusesAny_688 : decode cL_refusesAny 688 = .ok (.aload_n 0, 1) := by decide +kernel
theorem dL_refusesAny_689 : decode cL_refusesAny 689 = .ok (.iload_n 2, 1) := by decide +kernel
theorem dL_refusesAny_690 : decode cL_refusesAny 690 = .ok (.iload 4, 2) := by decide +kernel
theorem dL_refusesAny_692 : decode cL_refusesAny 692 = .ok (.invokevirtual 61, 3) := by decide +kernel
theorem dL_refusesAny_695 : decode cL_refusesAny 695 = .ok (.iconst (-1), 1) := by decide +kernel
theorem dL_refusesAny_696 : decode cL_refusesAny 696 = .ok (.if_icmp .ne 106, 3) := by decide +kernel
theorem dL_refusesAny_699 : decode cL_refusesAny 699 = .ok (.aload_n 0, 1) := by decide +kernel
theorem dL_refusesAny_700 : decode cL_refusesAny 700 = .ok (.iload 5, 2) := by decide +kernel
theorem dL_refusesAny_702 : decode cL_refusesAny 702 = .ok (.iload 4, 2) := by decide +kernel
theorem dL_refusesAny_704 : decode cL_refusesAny 704 = .ok (.invokevirtual 61, 3) := by decide +kernel
theorem dL_refusesAny_707 : decode cL_refusesAny 707 = .ok (.bipush (-2), 2) := by decide +kernel
theorem dL_refusesAny_709 : decode cL_refusesAny 709 = .ok (.if_icmp .ne 93, 3) := by decide +kernel
theorem dL_refusesAny_712 : decode cL_refusesAny 712 = .ok (.aload_n 0, 1) := by decide +kernel
theorem dL_refusesAny_713 : decode cL_refusesAny 713 = .ok (.iload_n 2, 1) := by decide +kernel
theorem dL_refusesAny_714 : decode cL_refusesAny 714 = .ok (.iconst 0, 1) := by decide +kernel
theorem dL_refusesAny_715 : decode cL_refusesAny 715 = .ok (.iload 4, 2) := by decide +kernel
theorem dL_refusesAny_717 : decode cL_refusesAny 717 = .ok (.invokevirtual 57, 3) := by decide +kernel
theorem dL_refusesAny_720 : decode cL_refusesAny 720 = .ok (.iconst (-1), 1) := by decide +kernel
theorem dL_refusesAny_721 : decode cL_refusesAny 721 = .ok (.if_icmp .ne 81, 3) := by decide +kernel
theorem dL_refusesAny_724 : decode cL_refusesAny 724 = .ok (.aload_n 0, 1) := by decide +kernel
theorem dL_refusesAny_725 : decode cL_refusesAny 725 = .ok (.iload 5, 2) := by decide +kernel
theorem dL_refusesAny_727 : decode cL_refusesAny 727 = .ok (.iload_n 3, 1) := by decide +kernel
theorem dL_refusesAny_728 : decode cL_refusesAny 728 = .ok (.iload 4, 2) := by decide +kernel
theorem dL_refusesAny_730 : decode cL_refusesAny 730 = .ok (.invokevirtual 57, 3) := by decide +kernel
theorem dL_refusesAny_733 : decode cL_refusesAny 733 = .ok (.iconst (-1), 1) := by decide +kernel
theorem dL_refusesAny_734 : decode cL_refusesAny 734 = .ok (.if_icmp .ne 68, 3) := by decide +kernel
theorem dL_refusesAny_737 : decode cL_refusesAny 737 = .ok (.aload_n 0, 1) := by decide +kernel
theorem dL_refusesAny_738 : decode cL_refusesAny 738 = .ok (.iload_n 2, 1) := by decide +kernel
theorem dL_refusesAny_739 : decode cL_refusesAny 739 = .ok (.iconst 0, 1) := by decide +kernel
theorem dL_refusesAny_740 : decode cL_refusesAny 740 = .ok (.invokevirtual 64, 3) := by decide +kernel
theorem dL_refusesAny_743 : decode cL_refusesAny 743 = .ok (.iconst (-1), 1) := by decide +kernel
theorem dL_refusesAny_744 : decode cL_refusesAny 744 = .ok (.if_icmp .ne 58, 3) := by decide +kernel
theorem dL_refusesAny_747 : decode cL_refusesAny 747 = .ok (.aload_n 0, 1) := by decide +kernel
theorem dL_refusesAny_748 : decode cL_refusesAny 748 = .ok (.iload 5, 2) := by decide +kernel
theorem dL_refusesAny_750 : decode cL_refusesAny 750 = .ok (.iload_n 3, 1) := by decide +kernel
theorem dL_refusesAny_751 : decode cL_refusesAny 751 = .ok (.invokevirtual 64, 3) := by decide +kernel
theorem dL_refusesAny_754 : decode cL_refusesAny 754 = .ok (.iconst (-1), 1) := by decide +kernel
theorem dL_refusesAny_755 : decode cL_refusesAny 755 = .ok (.if_icmp .ne 47, 3) := by decide +kernel
theorem dL_refusesAny_758 : decode cL_refusesAny 758 = .ok (.aload_n 0, 1) := by decide +kernel
theorem dL_refusesAny_759 : decode cL_refusesAny 759 = .ok (.iload_n 1, 1) := by decide +kernel
theorem dL_refusesAny_760 : decode cL_refusesAny 760 = .ok (.iconst 2, 1) := by decide +kernel
theorem dL_refusesAny_761 : decode cL_refusesAny 761 = .ok (.irem, 1) := by decide +kernel
theorem dL_refusesAny_762 : decode cL_refusesAny 762 = .ok (.ifCond .ne 7, 3) := by decide +kernel
theorem dL_refusesAny_765 : decode cL_refusesAny 765 = .ok (.iconst (-1), 1) := by decide +kernel
theorem dL_refusesAny_766 : decode cL_refusesAny 766 = .ok (.goto 4, 3) := by decide +kernel
theorem dL_refusesAny_769 : decode cL_refusesAny 769 = .ok (.iconst 2, 1) := by decide +kernel
theorem dL_refusesAny_770 : decode cL_refusesAny 770 = .ok (.invokevirtual 67, 3) := by decide +kernel
theorem dL_refusesAny_773 : decode cL_refusesAny 773 = .ok (.bipush (-2), 2) := by decide +kernel
theorem dL_refusesAny_775 : decode cL_refusesAny 775 = .ok (.if_icmp .ne 27, 3) := by decide +kernel
theorem dL_refusesAny_778 : decode cL_refusesAny 778 = .ok (.aload_n 0, 1) := by decide +kernel
theorem dL_refusesAny_779 : decode cL_refusesAny 779 = .ok (.iload_n 1, 1) := by decide +kernel
theorem dL_refusesAny_780 : decode cL_refusesAny 780 = .ok (.iconst 2, 1) := by decide +kernel
theorem dL_refusesAny_781 : decode cL_refusesAny 781 = .ok (.irem, 1) := by decide +kernel
theorem dL_refusesAny_782 : decode cL_refusesAny 782 = .ok (.ifCond .ne 7, 3) := by decide +kernel
theorem dL_refusesAny_785 : decode cL_refusesAny 785 = .ok (.iconst (-1), 1) := by decide +kernel
theorem dL_refusesAny_786 : decode cL_refusesAny 786 = .ok (.goto 4, 3) := by decide +kernel
theorem dL_refusesAny_789 : decode cL_refusesAny 789 = .ok (.iconst 2, 1) := by decide +kernel
theorem dL_refusesAny_790 : decode cL_refusesAny 790 = .ok (.invokevirtual 70, 3) := by decide +kernel
theorem dL_refusesAny_793 : decode cL_refusesAny 793 = .ok (.bipush (-2), 2) := by decide +kernel
theorem dL_refusesAny_795 : decode cL_refusesAny 795 = .ok (.if_icmp .ne 7, 3) := by decide +kernel
theorem dL_refusesAny_798 : decode cL_refusesAny 798 = .ok (.iconst 1, 1) := by decide +kernel
theorem dL_refusesAny_799 : decode cL_refusesAny 799 = .ok (.goto 4, 3) := by decide +kernel
theorem dL_refusesAny_802 : decode cL_refusesAny 802 = .ok (.iconst 0, 1) := by decide +kernel
theorem dL_refusesAny_803 : decode cL_refusesAny 803 = .ok (.istore 7, 2) := by decide +kernel
theorem dL_refusesAny_805 : decode cL_refusesAny 805 = .ok (.iload 7, 2) := by decide +kernel
theorem dL_refusesAny_807 : decode cL_refusesAny 807 = .ok (.ifCond .eq 30, 3) := by decide +kernel
theorem dL_refusesAny_810 : decode cL_refusesAny 810 = .ok (.aload_n 0, 1) := by decide +kernel
theorem dL_refusesAny_811 : decode cL_refusesAny 811 = .ok (.invokevirtual 73, 3) := by decide +kernel
theorem dL_refusesAny_814 : decode cL_refusesAny 814 = .ok (.ifCond .ne 23, 3) := by decide +kernel
theorem dL_refusesAny_817 : decode cL_refusesAny 817 = .ok (.aload_n 0, 1) := by decide +kernel
theorem dL_refusesAny_818 : decode cL_refusesAny 818 = .ok (.invokevirtual 77, 3) := by decide +kernel
theorem dL_refusesAny_821 : decode cL_refusesAny 821 = .ok (.bipush (-3), 2) := by decide +kernel
theorem dL_refusesAny_823 : decode cL_refusesAny 823 = .ok (.if_icmp .ne 14, 3) := by decide +kernel
theorem dL_refusesAny_826 : decode cL_refusesAny 826 = .ok (.aload_n 0, 1) := by decide +kernel
theorem dL_refusesAny_827 : decode cL_refusesAny 827 = .ok (.invokevirtual 80, 3) := by decide +kernel
theorem dL_refusesAny_830 : decode cL_refusesAny 830 = .ok (.ifCond .ne 7, 3) := by decide +kernel
theorem dL_refusesAny_833 : decode cL_refusesAny 833 = .ok (.iconst 1, 1) := by decide +kernel
theorem dL_refusesAny_834 : decode cL_refusesAny 834 = .ok (.goto 4, 3) := by decide +kernel
theorem dL_refusesAny_837 : decode cL_refusesAny 837 = .ok (.iconst 0, 1) := by decide +kernel
theorem dL_refusesAny_838 : decode cL_refusesAny 838 = .ok (.ireturn, 1) := by decide +kernel
