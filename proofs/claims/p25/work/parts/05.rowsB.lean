theorem inlX4 : ∀ w ∈ wsX40, w ∈ wsL_law := fun _ h => List.mem_append_left _ (List.mem_append_left _ (List.mem_append_left _ (List.mem_append_left _ (List.mem_append_left _ (List.mem_append_right _ h)))))
set_option maxRecDepth 20000 in
theorem ggX4_init_X3_init : GoodIn wsX4_init wsX3_init := goodIn_r _ [25, 26, 2, 3, 27, 28, 29, 30, 31, 32, 33, 34, 35, 36, 37, 38, 39, 40, 41, 42, 43, 44, 45, 46, 47, 48, 49, 50, 51, 52, 53, 77, 78, 79, 80, 81, 82, 83, 84, 85, 86, 87, 88, 89, 90, 91] (by decide +kernel) (by decide +kernel)
set_option maxRecDepth 20000 in
theorem gX4_init_X3_init : GoodIn wsX4_init (wsX3_init) := ggX4_init_X3_init
set_option maxRecDepth 20000 in
theorem ggX4_init_X0_init : GoodIn wsX4_init wsX0_init := goodIn_r _ [56, 57, 2, 3, 58, 59, 60, 61, 5, 6, 62, 24, 25, 26, 27, 28, 29, 30, 31, 32, 33, 34, 35, 36, 37, 38, 39, 40, 41, 42, 43, 44, 45, 46, 47, 48, 49, 50, 51, 52, 53, 98, 99, 100, 77, 78, 79, 80, 81, 82, 83, 84, 85, 86, 87, 88, 89, 90, 91] (by decide +kernel) (by decide +kernel)
set_option maxRecDepth 20000 in
theorem gX4_init_X0_init : GoodIn wsX4_init (wsX0_init) := ggX4_init_X0_init
set_option maxRecDepth 20000 in
theorem ggX4_init_X1_init : GoodIn wsX4_init wsX1_init := goodIn_r _ [64, 65, 2, 3, 66, 67, 68, 101, 102] (by decide +kernel) (by decide +kernel)
set_option maxRecDepth 20000 in
theorem gX4_init_X1_init_n33 : GoodIn wsX4_init (wsX1_init) := ggX4_init_X1_init
set_option maxRecDepth 20000 in
theorem ggX4_init_X2_init : GoodIn wsX4_init wsX2_init := goodIn_r _ [70, 71, 2, 3, 72, 73, 74, 75, 76, 103, 104, 105, 106, 107] (by decide +kernel) (by decide +kernel)
set_option maxRecDepth 20000 in
theorem gX4_init_X2_init_n40 : GoodIn wsX4_init (wsX2_init) := ggX4_init_X2_init
theorem dX4_init_0 : decode cX4_init 0 = .ok (.aload_n 0, 1) := by decide +kernel
theorem dX4_init_1 : decode cX4_init 1 = .ok (.invokespecial 1, 3) := by decide +kernel
theorem dX4_init_4 : decode cX4_init 4 = .ok (.aload_n 0, 1) := by decide +kernel
theorem dX4_init_5 : decode cX4_init 5 = .ok (.new 7, 3) := by decide +kernel
theorem dX4_init_8 : decode cX4_init 8 = .ok (.dup, 1) := by decide +kernel
theorem dX4_init_9 : decode cX4_init 9 = .ok (.invokespecial 9, 3) := by decide +kernel
theorem dX4_init_12 : decode cX4_init 12 = .ok (.putfield 10, 3) := by decide +kernel
theorem dX4_init_15 : decode cX4_init 15 = .ok (.aload_n 0, 1) := by decide +kernel
theorem dX4_init_16 : decode cX4_init 16 = .ok (.new 16, 3) := by decide +kernel
theorem dX4_init_19 : decode cX4_init 19 = .ok (.dup, 1) := by decide +kernel
theorem dX4_init_20 : decode cX4_init 20 = .ok (.invokespecial 18, 3) := by decide +kernel
theorem dX4_init_23 : decode cX4_init 23 = .ok (.putfield 19, 3) := by decide +kernel
theorem dX4_init_26 : decode cX4_init 26 = .ok (.aload_n 0, 1) := by decide +kernel
theorem dX4_init_27 : decode cX4_init 27 = .ok (.iconst 2, 1) := by decide +kernel
theorem dX4_init_28 : decode cX4_init 28 = .ok (.anewarray 7, 3) := by decide +kernel
theorem dX4_init_31 : decode cX4_init 31 = .ok (.putfield 23, 3) := by decide +kernel
theorem dX4_init_34 : decode cX4_init 34 = .ok (.iconst 0, 1) := by decide +kernel
theorem dX4_init_35 : decode cX4_init 35 = .ok (.istore_n 1, 1) := by decide +kernel
theorem dX4_init_36 : decode cX4_init 36 = .ok (.iload_n 1, 1) := by decide +kernel
theorem dX4_init_37 : decode cX4_init 37 = .ok (.iconst 2, 1) := by decide +kernel
theorem dX4_init_38 : decode cX4_init 38 = .ok (.if_icmp .ge 22, 3) := by decide +kernel
theorem dX4_init_41 : decode cX4_init 41 = .ok (.aload_n 0, 1) := by decide +kernel
theorem dX4_init_42 : decode cX4_init 42 = .ok (.getfield 23, 3) := by decide +kernel
theorem dX4_init_45 : decode cX4_init 45 = .ok (.iload_n 1, 1) := by decide +kernel
theorem dX4_init_46 : decode cX4_init 46 = .ok (.new 7, 3) := by decide +kernel
theorem dX4_init_49 : decode cX4_init 49 = .ok (.dup, 1) := by decide +kernel
theorem dX4_init_50 : decode cX4_init 50 = .ok (.invokespecial 9, 3) := by decide +kernel
theorem dX4_init_53 : decode cX4_init 53 = .ok (.aastore, 1) := by decide +kernel
theorem dX4_init_54 : decode cX4_init 54 = .ok (.iinc 1 1, 3) := by decide +kernel
theorem dX4_init_57 : decode cX4_init 57 = .ok (.goto (-21), 3) := by decide +kernel
theorem dX4_init_60 : decode cX4_init 60 = .ok (.aload_n 0, 1) := by decide +kernel
theorem dX4_init_61 : decode cX4_init 61 = .ok (.iconst 2, 1) := by decide +kernel
theorem dX4_init_62 : decode cX4_init 62 = .ok (.newarray .boolean, 2) := by decide +kernel
theorem dX4_init_64 : decode cX4_init 64 = .ok (.putfield 27, 3) := by decide +kernel
theorem dX4_init_67 : decode cX4_init 67 = .ok (.aload_n 0, 1) := by decide +kernel
theorem dX4_init_68 : decode cX4_init 68 = .ok (.new 31, 3) := by decide +kernel
theorem dX4_init_71 : decode cX4_init 71 = .ok (.dup, 1) := by decide +kernel
theorem dX4_init_72 : decode cX4_init 72 = .ok (.invokespecial 33, 3) := by decide +kernel
theorem dX4_init_75 : decode cX4_init 75 = .ok (.putfield 34, 3) := by decide +kernel
theorem dX4_init_78 : decode cX4_init 78 = .ok (.aload_n 0, 1) := by decide +kernel
theorem dX4_init_79 : decode cX4_init 79 = .ok (.new 38, 3) := by decide +kernel
theorem dX4_init_82 : decode cX4_init 82 = .ok (.dup, 1) := by decide +kernel
theorem dX4_init_83 : decode cX4_init 83 = .ok (.invokespecial 40, 3) := by decide +kernel
theorem dX4_init_86 : decode cX4_init 86 = .ok (.putfield 41, 3) := by decide +kernel
theorem dX4_init_89 : decode cX4_init 89 = .ok (.return_, 1) := by decide +kernel
set_option maxRecDepth 20000 in
theorem ggX4_set_X4_isWithin : GoodIn wsX4_set wsX4_isWithin := goodIn_r _ [10] (by decide +kernel) (by decide +kernel)
set_option maxRecDepth 20000 in
theorem gX4_set_X4_isWithin : GoodIn wsX4_set (va_wsS RX4 49 yX4_isWithin wsX4_isWithin) := goodIn_app (goodIn_of _ (by decide +kernel)) ggX4_set_X4_isWithin
set_option maxRecDepth 20000 in
theorem ggX4_set_X0_keep : GoodIn wsX4_set wsX0_keep := goodIn_r _ [15, 16, 17, 18, 19, 20, 21, 22, 23, 24, 25, 26, 27, 28, 29, 30, 31, 32, 33, 34, 35, 36, 37, 38, 39, 40, 41, 42, 43, 9, 44, 45, 46, 47, 48, 49, 71, 72, 73, 56, 57, 58, 59, 60, 61, 62, 63, 64, 65, 66, 67, 68, 69, 70] (by decide +kernel) (by decide +kernel)
set_option maxRecDepth 20000 in
theorem gX4_set_X0_keep : GoodIn wsX4_set (wsV RX4 59 RX0 yX0_keep wsX0_keep) := goodIn_app (goodIn_of _ (by decide +kernel)) ggX4_set_X0_keep
theorem dX4_set_0 : decode cX4_set 0 = .ok (.iload_n 1, 1) := by decide +kernel
theorem dX4_set_1 : decode cX4_set 1 = .ok (.iconst 0, 1) := by decide +kernel
theorem dX4_set_2 : decode cX4_set 2 = .ok (.getstatic 45, 3) := by decide +kernel
theorem dX4_set_5 : decode cX4_set 5 = .ok (.arraylength, 1) := by decide +kernel
theorem dX4_set_6 : decode cX4_set 6 = .ok (.iconst 1, 1) := by decide +kernel
theorem dX4_set_7 : decode cX4_set 7 = .ok (.isub, 1) := by decide +kernel
theorem dX4_set_8 : decode cX4_set 8 = .ok (.invokestatic 49, 3) := by decide +kernel
theorem dX4_set_11 : decode cX4_set 11 = .ok (.ifCond .ne 6, 3) := by decide +kernel
theorem dX4_set_14 : decode cX4_set 14 = .ok (.bipush (-2), 2) := by decide +kernel
theorem dX4_set_16 : decode cX4_set 16 = .ok (.ireturn, 1) := by decide +kernel
theorem dX4_set_17 : decode cX4_set 17 = .ok (.iload_n 2, 1) := by decide +kernel
theorem dX4_set_18 : decode cX4_set 18 = .ok (.getstatic 53, 3) := by decide +kernel
theorem dX4_set_21 : decode cX4_set 21 = .ok (.iload_n 1, 1) := by decide +kernel
theorem dX4_set_22 : decode cX4_set 22 = .ok (.iaload, 1) := by decide +kernel
theorem dX4_set_23 : decode cX4_set 23 = .ok (.getstatic 56, 3) := by decide +kernel
theorem dX4_set_26 : decode cX4_set 26 = .ok (.iload_n 1, 1) := by decide +kernel
theorem dX4_set_27 : decode cX4_set 27 = .ok (.iaload, 1) := by decide +kernel
theorem dX4_set_28 : decode cX4_set 28 = .ok (.invokestatic 49, 3) := by decide +kernel
theorem dX4_set_31 : decode cX4_set 31 = .ok (.ifCond .ne 6, 3) := by decide +kernel
theorem dX4_set_34 : decode cX4_set 34 = .ok (.bipush (-2), 2) := by decide +kernel
theorem dX4_set_36 : decode cX4_set 36 = .ok (.ireturn, 1) := by decide +kernel
theorem dX4_set_37 : decode cX4_set 37 = .ok (.aload_n 0, 1) := by decide +kernel
theorem dX4_set_38 : decode cX4_set 38 = .ok (.getfield 19, 3) := by decide +kernel
theorem dX4_set_41 : decode cX4_set 41 = .ok (.aload_n 0, 1) := by decide +kernel
theorem dX4_set_42 : decode cX4_set 42 = .ok (.getfield 10, 3) := by decide +kernel
theorem dX4_set_45 : decode cX4_set 45 = .ok (.invokevirtual 59, 3) := by decide +kernel
theorem dX4_set_48 : decode cX4_set 48 = .ok (.aload_n 0, 1) := by decide +kernel
theorem dX4_set_49 : decode cX4_set 49 = .ok (.getfield 10, 3) := by decide +kernel
theorem dX4_set_52 : decode cX4_set 52 = .ok (.getfield 63, 3) := by decide +kernel
theorem dX4_set_55 : decode cX4_set 55 = .ok (.iload_n 1, 1) := by decide +kernel
theorem dX4_set_56 : decode cX4_set 56 = .ok (.iaload, 1) := by decide +kernel
theorem dX4_set_57 : decode cX4_set 57 = .ok (.istore_n 3, 1) := by decide +kernel
theorem dX4_set_58 : decode cX4_set 58 = .ok (.aload_n 0, 1) := by decide +kernel
theorem dX4_set_59 : decode cX4_set 59 = .ok (.getfield 10, 3) := by decide +kernel
theorem dX4_set_62 : decode cX4_set 62 = .ok (.getfield 63, 3) := by decide +kernel
theorem dX4_set_65 : decode cX4_set 65 = .ok (.iload_n 1, 1) := by decide +kernel
theorem dX4_set_66 : decode cX4_set 66 = .ok (.iload_n 2, 1) := by decide +kernel
theorem dX4_set_67 : decode cX4_set 67 = .ok (.iastore, 1) := by decide +kernel
theorem dX4_set_68 : decode cX4_set 68 = .ok (.iload_n 3, 1) := by decide +kernel
theorem dX4_set_69 : decode cX4_set 69 = .ok (.ireturn, 1) := by decide +kernel
set_option maxRecDepth 20000 in
theorem ggX4_add_X4_isWithin : GoodIn wsX4_add wsX4_isWithin := goodIn_r _ [7] (by decide +kernel) (by decide +kernel)
set_option maxRecDepth 20000 in
theorem gX4_add_X4_isWithin : GoodIn wsX4_add (va_wsS RX4 49 yX4_isWithin wsX4_isWithin) := goodIn_app (goodIn_of _ (by decide +kernel)) ggX4_add_X4_isWithin
set_option maxRecDepth 20000 in
theorem ggX4_add_X0_keep : GoodIn wsX4_add wsX0_keep := goodIn_r _ [12, 13, 14, 15, 16, 17, 18, 19, 20, 21, 22, 23, 24, 25, 26, 27, 28, 29, 30, 31, 32, 33, 34, 35, 36, 37, 38, 39, 40, 6, 41, 42, 43, 44, 45, 46, 72, 73, 74, 57, 58, 59, 60, 61, 62, 63, 64, 65, 66, 67, 68, 69, 70, 71] (by decide +kernel) (by decide +kernel)
set_option maxRecDepth 20000 in
theorem gX4_add_X0_keep : GoodIn wsX4_add (wsV RX4 59 RX0 yX0_keep wsX0_keep) := goodIn_app (goodIn_of _ (by decide +kernel)) ggX4_add_X0_keep
set_option maxRecDepth 20000 in
theorem ggX4_add_X3_addExcuse : GoodIn wsX4_add wsX3_addExcuse := goodIn_r _ [50, 27, 26, 28, 57, 58, 59, 60, 61, 62, 63, 64, 65, 66, 67, 68, 69, 70, 71] (by decide +kernel) (by decide +kernel)
set_option maxRecDepth 20000 in
theorem gX4_add_X3_addExcuse : GoodIn wsX4_add (wsV RX4 70 RX3 yX3_addExcuse wsX3_addExcuse) := goodIn_app (goodIn_of _ (by decide +kernel)) ggX4_add_X3_addExcuse
theorem dX4_add_0 : decode cX4_add 0 = .ok (.iload_n 1, 1) := by decide +kernel
theorem dX4_add_1 : decode cX4_add 1 = .ok (.iconst 0, 1) := by decide +kernel
theorem dX4_add_2 : decode cX4_add 2 = .ok (.iconst 4, 1) := by decide +kernel
theorem dX4_add_3 : decode cX4_add 3 = .ok (.invokestatic 49, 3) := by decide +kernel
theorem dX4_add_6 : decode cX4_add 6 = .ok (.ifCond .eq 13, 3) := by decide +kernel
theorem dX4_add_9 : decode cX4_add 9 = .ok (.iload_n 2, 1) := by decide +kernel
theorem dX4_add_10 : decode cX4_add 10 = .ok (.iconst 1, 1) := by decide +kernel
theorem dX4_add_11 : decode cX4_add 11 = .ok (.bipush 99, 2) := by decide +kernel
theorem dX4_add_13 : decode cX4_add 13 = .ok (.invokestatic 49, 3) := by decide +kernel
theorem dX4_add_16 : decode cX4_add 16 = .ok (.ifCond .ne 6, 3) := by decide +kernel
theorem dX4_add_19 : decode cX4_add 19 = .ok (.bipush (-2), 2) := by decide +kernel
theorem dX4_add_21 : decode cX4_add 21 = .ok (.ireturn, 1) := by decide +kernel
theorem dX4_add_22 : decode cX4_add 22 = .ok (.aload_n 0, 1) := by decide +kernel
theorem dX4_add_23 : decode cX4_add 23 = .ok (.getfield 10, 3) := by decide +kernel
theorem dX4_add_26 : decode cX4_add 26 = .ok (.getfield 66, 3) := by decide +kernel
theorem dX4_add_29 : decode cX4_add 29 = .ok (.bipush 12, 2) := by decide +kernel
theorem dX4_add_31 : decode cX4_add 31 = .ok (.if_icmp .lt 6, 3) := by decide +kernel
theorem dX4_add_34 : decode cX4_add 34 = .ok (.bipush (-4), 2) := by decide +kernel
theorem dX4_add_36 : decode cX4_add 36 = .ok (.ireturn, 1) := by decide +kernel
theorem dX4_add_37 : decode cX4_add 37 = .ok (.aload_n 0, 1) := by decide +kernel
theorem dX4_add_38 : decode cX4_add 38 = .ok (.getfield 19, 3) := by decide +kernel
theorem dX4_add_41 : decode cX4_add 41 = .ok (.aload_n 0, 1) := by decide +kernel
theorem dX4_add_42 : decode cX4_add 42 = .ok (.getfield 10, 3) := by decide +kernel
theorem dX4_add_45 : decode cX4_add 45 = .ok (.invokevirtual 59, 3) := by decide +kernel
theorem dX4_add_48 : decode cX4_add 48 = .ok (.aload_n 0, 1) := by decide +kernel
theorem dX4_add_49 : decode cX4_add 49 = .ok (.getfield 10, 3) := by decide +kernel
theorem dX4_add_52 : decode cX4_add 52 = .ok (.iload_n 1, 1) := by decide +kernel
theorem dX4_add_53 : decode cX4_add 53 = .ok (.iload_n 2, 1) := by decide +kernel
theorem dX4_add_54 : decode cX4_add 54 = .ok (.invokevirtual 70, 3) := by decide +kernel
theorem dX4_add_57 : decode cX4_add 57 = .ok (.ireturn, 1) := by decide +kernel
set_option maxRecDepth 20000 in
theorem ggX4_worth_X3_hasExcuse : GoodIn wsX4_worth wsX3_hasExcuse := goodIn_r _ [8, 9, 57, 58, 59, 60, 61, 62, 63, 64, 65, 66, 67, 68, 69, 70, 71] (by decide +kernel) (by decide +kernel)
set_option maxRecDepth 20000 in
theorem gX4_worth_X3_hasExcuse : GoodIn wsX4_worth (wsV RX4 74 RX3 yX3_hasExcuse wsX3_hasExcuse) := goodIn_app (goodIn_of _ (by decide +kernel)) ggX4_worth_X3_hasExcuse
set_option maxRecDepth 20000 in
theorem ggX4_worth_X4_isWithin : GoodIn wsX4_worth wsX4_isWithin := goodIn_r _ [13] (by decide +kernel) (by decide +kernel)
set_option maxRecDepth 20000 in
theorem gX4_worth_X4_isWithin : GoodIn wsX4_worth (va_wsS RX4 49 yX4_isWithin wsX4_isWithin) := goodIn_app (goodIn_of _ (by decide +kernel)) ggX4_worth_X4_isWithin
set_option maxRecDepth 20000 in
theorem ggX4_worth_X0_keep : GoodIn wsX4_worth wsX0_keep := goodIn_r _ [18, 19, 20, 21, 22, 23, 24, 25, 26, 27, 28, 7, 29, 30, 9, 31, 32, 33, 34, 35, 36, 37, 38, 39, 40, 41, 42, 43, 44, 12, 45, 46, 47, 48, 49, 50, 72, 73, 74, 57, 58, 59, 60, 61, 62, 63, 64, 65, 66, 67, 68, 69, 70, 71] (by decide +kernel) (by decide +kernel)
set_option maxRecDepth 20000 in
theorem gX4_worth_X0_keep : GoodIn wsX4_worth (wsV RX4 59 RX0 yX0_keep wsX0_keep) := goodIn_app (goodIn_of _ (by decide +kernel)) ggX4_worth_X0_keep
theorem dX4_worth_0 : decode cX4_worth 0 = .ok (.aload_n 0, 1) := by decide +kernel
theorem dX4_worth_1 : decode cX4_worth 1 = .ok (.getfield 10, 3) := by decide +kernel
theorem dX4_worth_4 : decode cX4_worth 4 = .ok (.iload_n 1, 1) := by decide +kernel
theorem dX4_worth_5 : decode cX4_worth 5 = .ok (.invokevirtual 74, 3) := by decide +kernel
theorem dX4_worth_8 : decode cX4_worth 8 = .ok (.ifCond .ne 5, 3) := by decide +kernel
theorem dX4_worth_11 : decode cX4_worth 11 = .ok (.iconst (-1), 1) := by decide +kernel
theorem dX4_worth_12 : decode cX4_worth 12 = .ok (.ireturn, 1) := by decide +kernel
theorem dX4_worth_13 : decode cX4_worth 13 = .ok (.iload_n 2, 1) := by decide +kernel
theorem dX4_worth_14 : decode cX4_worth 14 = .ok (.iconst 1, 1) := by decide +kernel
theorem dX4_worth_15 : decode cX4_worth 15 = .ok (.bipush 99, 2) := by decide +kernel
theorem dX4_worth_17 : decode cX4_worth 17 = .ok (.invokestatic 49, 3) := by decide +kernel
theorem dX4_worth_20 : decode cX4_worth 20 = .ok (.ifCond .ne 6, 3) := by decide +kernel
theorem dX4_worth_23 : decode cX4_worth 23 = .ok (.bipush (-2), 2) := by decide +kernel
theorem dX4_worth_25 : decode cX4_worth 25 = .ok (.ireturn, 1) := by decide +kernel
theorem dX4_worth_26 : decode cX4_worth 26 = .ok (.aload_n 0, 1) := by decide +kernel
theorem dX4_worth_27 : decode cX4_worth 27 = .ok (.getfield 19, 3) := by decide +kernel
theorem dX4_worth_30 : decode cX4_worth 30 = .ok (.aload_n 0, 1) := by decide +kernel
theorem dX4_worth_31 : decode cX4_worth 31 = .ok (.getfield 10, 3) := by decide +kernel
theorem dX4_worth_34 : decode cX4_worth 34 = .ok (.invokevirtual 59, 3) := by decide +kernel
theorem dX4_worth_37 : decode cX4_worth 37 = .ok (.aload_n 0, 1) := by decide +kernel
theorem dX4_worth_38 : decode cX4_worth 38 = .ok (.getfield 10, 3) := by decide +kernel
theorem dX4_worth_41 : decode cX4_worth 41 = .ok (.getfield 78, 3) := by decide +kernel
theorem dX4_worth_44 : decode cX4_worth 44 = .ok (.iload_n 1, 1) := by decide +kernel
theorem dX4_worth_45 : decode cX4_worth 45 = .ok (.iaload, 1) := by decide +kernel
theorem dX4_worth_46 : decode cX4_worth 46 = .ok (.istore_n 3, 1) := by decide +kernel
theorem dX4_worth_47 : decode cX4_worth 47 = .ok (.aload_n 0, 1) := by decide +kernel
theorem dX4_worth_48 : decode cX4_worth 48 = .ok (.getfield 10, 3) := by decide +kernel
theorem dX4_worth_51 : decode cX4_worth 51 = .ok (.getfield 78, 3) := by decide +kernel
theorem dX4_worth_54 : decode cX4_worth 54 = .ok (.iload_n 1, 1) := by decide +kernel
theorem dX4_worth_55 : decode cX4_worth 55 = .ok (.iload_n 2, 1) := by decide +kernel
theorem dX4_worth_56 : decode cX4_worth 56 = .ok (.iastore, 1) := by decide +kernel
theorem dX4_worth_57 : decode cX4_worth 57 = .ok (.iload_n 3, 1) := by decide +kernel
theorem dX4_worth_58 : decode cX4_worth 58 = .ok (.ireturn, 1) := by decide +kernel
set_option maxRecDepth 20000 in
theorem ggX4_offer_X4_offerError : GoodIn wsX4_offer wsX4_offerError := goodIn_r _ [7, 2, 8, 9, 6, 10, 11, 12, 13, 14, 15, 16, 17, 18, 19, 111, 112, 113, 114, 115, 116, 117, 118, 119, 120, 121, 122, 123, 124, 125, 126, 127, 128, 129, 130, 131] (by decide +kernel) (by decide +kernel)
set_option maxRecDepth 20000 in
theorem gX4_offer_X4_offerError : GoodIn wsX4_offer (wsV RX4 81 RX4 yX4_offerError wsX4_offerError) := goodIn_app (goodIn_of _ (by decide +kernel)) ggX4_offer_X4_offerError
set_option maxRecDepth 20000 in
theorem ggX4_offer_X0_keep : GoodIn wsX4_offer wsX0_keep := goodIn_r _ [24, 25, 26, 27, 28, 29, 30, 31, 32, 33, 34, 17, 35, 36, 19, 37, 38, 39, 40, 41, 42, 43, 44, 45, 46, 47, 48, 49, 50, 6, 51, 52, 53, 54, 55, 56, 132, 133, 134, 117, 118, 119, 120, 121, 122, 123, 124, 125, 126, 127, 128, 129, 130, 131] (by decide +kernel) (by decide +kernel)
set_option maxRecDepth 20000 in
theorem gX4_offer_X0_keep : GoodIn wsX4_offer (wsV RX4 59 RX0 yX0_keep wsX0_keep) := goodIn_app (goodIn_of _ (by decide +kernel)) ggX4_offer_X0_keep
set_option maxRecDepth 20000 in
theorem ggX4_offer_X3_takeOffer : GoodIn wsX4_offer wsX3_takeOffer := goodIn_r _ [60, 46, 37, 61, 62, 63, 17, 64, 36, 41, 65, 66, 67, 68, 40, 69, 70, 71, 72, 38, 47, 73, 74, 75, 76, 77, 78, 30, 79, 80, 81, 82, 83, 84, 6, 85, 86, 87, 88, 89, 90, 91, 92, 93, 94, 95, 96, 97, 39, 44, 98, 99, 100, 101, 102, 103, 104, 105, 106, 29, 31, 107, 108, 109, 110, 42, 45, 48, 117, 118, 119, 120, 121, 122, 123, 124, 125, 126, 127, 128, 129, 130, 131] (by decide +kernel) (by decide +kernel)
set_option maxRecDepth 20000 in
theorem gX4_offer_X3_takeOffer : GoodIn wsX4_offer (wsV RX4 85 RX3 yX3_takeOffer wsX3_takeOffer) := goodIn_app (goodIn_of _ (by decide +kernel)) ggX4_offer_X3_takeOffer
theorem dX4_offer_0 : decode cX4_offer 0 = .ok (.aload_n 0, 1) := by decide +kernel
theorem dX4_offer_1 : decode cX4_offer 1 = .ok (.iload_n 1, 1) := by decide +kernel
theorem dX4_offer_2 : decode cX4_offer 2 = .ok (.iload_n 2, 1) := by decide +kernel
theorem dX4_offer_3 : decode cX4_offer 3 = .ok (.iload_n 3, 1) := by decide +kernel
theorem dX4_offer_4 : decode cX4_offer 4 = .ok (.iload 4, 2) := by decide +kernel
theorem dX4_offer_6 : decode cX4_offer 6 = .ok (.invokevirtual 81, 3) := by decide +kernel
theorem dX4_offer_9 : decode cX4_offer 9 = .ok (.istore 5, 2) := by decide +kernel
theorem dX4_offer_11 : decode cX4_offer 11 = .ok (.iload 5, 2) := by decide +kernel
theorem dX4_offer_13 : decode cX4_offer 13 = .ok (.ifCond .eq 6, 3) := by decide +kernel
theorem dX4_offer_16 : decode cX4_offer 16 = .ok (.iload 5, 2) := by decide +kernel
theorem dX4_offer_18 : decode cX4_offer 18 = .ok (.ireturn, 1) := by decide +kernel
theorem dX4_offer_19 : decode cX4_offer 19 = .ok (.aload_n 0, 1) := by decide +kernel
theorem dX4_offer_20 : decode cX4_offer 20 = .ok (.getfield 19, 3) := by decide +kernel
theorem dX4_offer_23 : decode cX4_offer 23 = .ok (.aload_n 0, 1) := by decide +kernel
theorem dX4_offer_24 : decode cX4_offer 24 = .ok (.getfield 10, 3) := by decide +kernel
theorem dX4_offer_27 : decode cX4_offer 27 = .ok (.invokevirtual 59, 3) := by decide +kernel
theorem dX4_offer_30 : decode cX4_offer 30 = .ok (.aload_n 0, 1) := by decide +kernel
theorem dX4_offer_31 : decode cX4_offer 31 = .ok (.getfield 10, 3) := by decide +kernel
theorem dX4_offer_34 : decode cX4_offer 34 = .ok (.iload_n 1, 1) := by decide +kernel
theorem dX4_offer_35 : decode cX4_offer 35 = .ok (.iload_n 2, 1) := by decide +kernel
theorem dX4_offer_36 : decode cX4_offer 36 = .ok (.iload_n 3, 1) := by decide +kernel
theorem dX4_offer_37 : decode cX4_offer 37 = .ok (.iload 4, 2) := by decide +kernel
theorem dX4_offer_39 : decode cX4_offer 39 = .ok (.invokevirtual 85, 3) := by decide +kernel
theorem dX4_offer_42 : decode cX4_offer 42 = .ok (.ireturn, 1) := by decide +kernel
set_option maxRecDepth 20000 in
theorem ggX4_pay_X4_isPupil : GoodIn wsX4_pay wsX4_isPupil := goodIn_r _ [8, 9, 10, 7, 11] (by decide +kernel) (by decide +kernel)
set_option maxRecDepth 20000 in
theorem gX4_pay_X4_isPupil : GoodIn wsX4_pay (va_wsS RX4 88 yX4_isPupil wsX4_isPupil) := goodIn_app (goodIn_of _ (by decide +kernel)) ggX4_pay_X4_isPupil
set_option maxRecDepth 20000 in
theorem ggX4_pay_X4_isWithin : GoodIn wsX4_pay wsX4_isWithin := goodIn_r _ [11] (by decide +kernel) (by decide +kernel)
set_option maxRecDepth 20000 in
theorem gX4_pay_X4_isWithin : GoodIn wsX4_pay (va_wsS RX4 49 yX4_isWithin wsX4_isWithin) := goodIn_app (goodIn_of _ (by decide +kernel)) ggX4_pay_X4_isWithin
set_option maxRecDepth 20000 in
theorem ggX4_pay_X0_keep : GoodIn wsX4_pay wsX0_keep := goodIn_r _ [16, 17, 18, 19, 20, 21, 22, 23, 24, 25, 26, 27, 28, 29, 30, 31, 32, 33, 34, 35, 36, 37, 38, 39, 40, 41, 42, 43, 44, 7, 45, 46, 47, 48, 49, 50, 72, 73, 74, 57, 58, 59, 60, 61, 62, 63, 64, 65, 66, 67, 68, 69, 70, 71] (by decide +kernel) (by decide +kernel)
set_option maxRecDepth 20000 in
theorem gX4_pay_X0_keep : GoodIn wsX4_pay (wsV RX4 59 RX0 yX0_keep wsX0_keep) := goodIn_app (goodIn_of _ (by decide +kernel)) ggX4_pay_X0_keep
theorem dX4_pay_0 : decode cX4_pay 0 = .ok (.iload_n 1, 1) := by decide +kernel
theorem dX4_pay_1 : decode cX4_pay 1 = .ok (.invokestatic 88, 3) := by decide +kernel
theorem dX4_pay_4 : decode cX4_pay 4 = .ok (.ifCond .ne 5, 3) := by decide +kernel
theorem dX4_pay_7 : decode cX4_pay 7 = .ok (.iconst (-1), 1) := by decide +kernel
theorem dX4_pay_8 : decode cX4_pay 8 = .ok (.ireturn, 1) := by decide +kernel
theorem dX4_pay_9 : decode cX4_pay 9 = .ok (.iload_n 2, 1) := by decide +kernel
theorem dX4_pay_10 : decode cX4_pay 10 = .ok (.iconst 1, 1) := by decide +kernel
theorem dX4_pay_11 : decode cX4_pay 11 = .ok (.sipush 9999, 3) := by decide +kernel
theorem dX4_pay_14 : decode cX4_pay 14 = .ok (.invokestatic 49, 3) := by decide +kernel
theorem dX4_pay_17 : decode cX4_pay 17 = .ok (.ifCond .ne 6, 3) := by decide +kernel
theorem dX4_pay_20 : decode cX4_pay 20 = .ok (.bipush (-2), 2) := by decide +kernel
theorem dX4_pay_22 : decode cX4_pay 22 = .ok (.ireturn, 1) := by decide +kernel
theorem dX4_pay_23 : decode cX4_pay 23 = .ok (.aload_n 0, 1) := by decide +kernel
theorem dX4_pay_24 : decode cX4_pay 24 = .ok (.getfield 10, 3) := by decide +kernel
theorem dX4_pay_27 : decode cX4_pay 27 = .ok (.getfield 91, 3) := by decide +kernel
theorem dX4_pay_30 : decode cX4_pay 30 = .ok (.iload_n 1, 1) := by decide +kernel
theorem dX4_pay_31 : decode cX4_pay 31 = .ok (.iaload, 1) := by decide +kernel
theorem dX4_pay_32 : decode cX4_pay 32 = .ok (.iload_n 2, 1) := by decide +kernel
theorem dX4_pay_33 : decode cX4_pay 33 = .ok (.if_icmp .ge 6, 3) := by decide +kernel
theorem dX4_pay_36 : decode cX4_pay 36 = .ok (.bipush (-5), 2) := by decide +kernel
theorem dX4_pay_38 : decode cX4_pay 38 = .ok (.ireturn, 1) := by decide +kernel
theorem dX4_pay_39 : decode cX4_pay 39 = .ok (.aload_n 0, 1) := by decide +kernel
theorem dX4_pay_40 : decode cX4_pay 40 = .ok (.getfield 19, 3) := by decide +kernel
theorem dX4_pay_43 : decode cX4_pay 43 = .ok (.aload_n 0, 1) := by decide +kernel
theorem dX4_pay_44 : decode cX4_pay 44 = .ok (.getfield 10, 3) := by decide +kernel
theorem dX4_pay_47 : decode cX4_pay 47 = .ok (.invokevirtual 59, 3) := by decide +kernel
theorem dX4_pay_50 : decode cX4_pay 50 = .ok (.aload_n 0, 1) := by decide +kernel
theorem dX4_pay_51 : decode cX4_pay 51 = .ok (.getfield 10, 3) := by decide +kernel
theorem dX4_pay_54 : decode cX4_pay 54 = .ok (.getfield 91, 3) := by decide +kernel
theorem dX4_pay_57 : decode cX4_pay 57 = .ok (.iload_n 1, 1) := by decide +kernel
theorem dX4_pay_58 : decode cX4_pay 58 = .ok (.dup2, 1) := by decide +kernel
theorem dX4_pay_59 : decode cX4_pay 59 = .ok (.iaload, 1) := by decide +kernel
theorem dX4_pay_60 : decode cX4_pay 60 = .ok (.iload_n 2, 1) := by decide +kernel
theorem dX4_pay_61 : decode cX4_pay 61 = .ok (.isub, 1) := by decide +kernel
theorem dX4_pay_62 : decode cX4_pay 62 = .ok (.iastore, 1) := by decide +kernel
theorem dX4_pay_63 : decode cX4_pay 63 = .ok (.aload_n 0, 1) := by decide +kernel
theorem dX4_pay_64 : decode cX4_pay 64 = .ok (.getfield 10, 3) := by decide +kernel
theorem dX4_pay_67 : decode cX4_pay 67 = .ok (.getfield 94, 3) := by decide +kernel
theorem dX4_pay_70 : decode cX4_pay 70 = .ok (.iload_n 1, 1) := by decide +kernel
theorem dX4_pay_71 : decode cX4_pay 71 = .ok (.dup2, 1) := by decide +kernel
theorem dX4_pay_72 : decode cX4_pay 72 = .ok (.iaload, 1) := by decide +kernel
theorem dX4_pay_73 : decode cX4_pay 73 = .ok (.iload_n 2, 1) := by decide +kernel
theorem dX4_pay_74 : decode cX4_pay 74 = .ok (.iadd, 1) := by decide +kernel
theorem dX4_pay_75 : decode cX4_pay 75 = .ok (.iastore, 1) := by decide +kernel
theorem dX4_pay_76 : decode cX4_pay 76 = .ok (.aload_n 0, 1) := by decide +kernel
theorem dX4_pay_77 : decode cX4_pay 77 = .ok (.getfield 10, 3) := by decide +kernel
theorem dX4_pay_80 : decode cX4_pay 80 = .ok (.getfield 91, 3) := by decide +kernel
theorem dX4_pay_83 : decode cX4_pay 83 = .ok (.iload_n 1, 1) := by decide +kernel
theorem dX4_pay_84 : decode cX4_pay 84 = .ok (.iaload, 1) := by decide +kernel
theorem dX4_pay_85 : decode cX4_pay 85 = .ok (.ireturn, 1) := by decide +kernel
set_option maxRecDepth 20000 in
theorem ggX4_endTerm_X0_keep : GoodIn wsX4_endTerm wsX0_keep := goodIn_r _ [8, 9, 10, 11, 12, 13, 14, 15, 16, 17, 18, 19, 20, 21, 22, 23, 24, 25, 26, 27, 28, 29, 30, 31, 32, 33, 34, 35, 36, 37, 38, 39, 40, 41, 42, 43, 73, 74, 75, 58, 59, 60, 61, 62, 63, 64, 65, 66, 67, 68, 69, 70, 71, 72] (by decide +kernel) (by decide +kernel)
set_option maxRecDepth 20000 in
theorem gX4_endTerm_X0_keep : GoodIn wsX4_endTerm (wsV RX4 59 RX0 yX0_keep wsX0_keep) := goodIn_app (goodIn_of _ (by decide +kernel)) ggX4_endTerm_X0_keep
set_option maxRecDepth 20000 in
theorem ggX4_endTerm_X4_sum : GoodIn wsX4_endTerm wsX4_sum := goodIn_r _ [46] (by decide +kernel) (by decide +kernel)
set_option maxRecDepth 20000 in
theorem gX4_endTerm_X4_sum : GoodIn wsX4_endTerm (va_wsS RX4 100 yX4_sum wsX4_sum) := goodIn_app (goodIn_of _ (by decide +kernel)) ggX4_endTerm_X4_sum
set_option maxRecDepth 20000 in
theorem ggX4_endTerm_X3_beginNextTerm : GoodIn wsX4_endTerm wsX3_beginNextTerm := goodIn_r _ [50, 26, 32, 27, 51, 13, 14, 15, 33, 35, 58, 59, 60, 61, 62, 63, 64, 65, 66, 67, 68, 69, 70, 71, 72] (by decide +kernel) (by decide +kernel)
set_option maxRecDepth 20000 in
theorem gX4_endTerm_X3_beginNextTerm : GoodIn wsX4_endTerm (wsV RX4 104 RX3 yX3_beginNextTerm wsX3_beginNextTerm) := goodIn_app (goodIn_of _ (by decide +kernel)) ggX4_endTerm_X3_beginNextTerm
theorem dX4_endTerm_0 : decode cX4_endTerm 0 = .ok (.aload_n 0, 1) := by decide +kernel
theorem dX4_endTerm_1 : decode cX4_endTerm 1 = .ok (.getfield 19, 3) := by decide +kernel
theorem dX4_endTerm_4 : decode cX4_endTerm 4 = .ok (.aload_n 0, 1) := by decide +kernel
theorem dX4_endTerm_5 : decode cX4_endTerm 5 = .ok (.getfield 10, 3) := by decide +kernel
theorem dX4_endTerm_8 : decode cX4_endTerm 8 = .ok (.invokevirtual 59, 3) := by decide +kernel
theorem dX4_endTerm_11 : decode cX4_endTerm 11 = .ok (.aload_n 0, 1) := by decide +kernel
theorem dX4_endTerm_12 : decode cX4_endTerm 12 = .ok (.getfield 10, 3) := by decide +kernel
theorem dX4_endTerm_15 : decode cX4_endTerm 15 = .ok (.getfield 97, 3) := by decide +kernel
theorem dX4_endTerm_18 : decode cX4_endTerm 18 = .ok (.invokestatic 100, 3) := by decide +kernel
theorem dX4_endTerm_21 : decode cX4_endTerm 21 = .ok (.istore_n 1, 1) := by decide +kernel
theorem dX4_endTerm_22 : decode cX4_endTerm 22 = .ok (.aload_n 0, 1) := by decide +kernel
theorem dX4_endTerm_23 : decode cX4_endTerm 23 = .ok (.getfield 10, 3) := by decide +kernel
theorem dX4_endTerm_26 : decode cX4_endTerm 26 = .ok (.invokevirtual 104, 3) := by decide +kernel
theorem dX4_endTerm_29 : decode cX4_endTerm 29 = .ok (.iload_n 1, 1) := by decide +kernel
theorem dX4_endTerm_30 : decode cX4_endTerm 30 = .ok (.ireturn, 1) := by decide +kernel
set_option maxRecDepth 20000 in
theorem ggX4_read_X4_fault : GoodIn wsX4_read wsX4_fault := goodIn_r _ [11, 3, 4, 5, 6, 12, 13, 14, 15, 16, 17, 18, 19, 20, 21, 22, 23, 24, 25, 26, 27, 28, 29, 30, 31, 32, 10, 33, 34, 35, 36, 37, 38, 39, 40, 41, 42, 43, 44, 45, 46, 47, 48, 49, 50, 51, 52, 53, 54, 55, 56, 57, 58, 59, 60, 61, 62, 168, 169, 170, 171, 172, 173, 174, 175, 176, 177, 178, 179, 180] (by decide +kernel) (by decide +kernel)
set_option maxRecDepth 20000 in
theorem gX4_read_X4_fault : GoodIn wsX4_read (wsV RX4 107 RX4 yX4_fault wsX4_fault) := goodIn_app (goodIn_of _ (by decide +kernel)) ggX4_read_X4_fault
set_option maxRecDepth 20000 in
theorem ggX4_read_X0_keep : GoodIn wsX4_read wsX0_keep := goodIn_r _ [67, 68, 69, 70, 71, 72, 73, 74, 75, 76, 77, 78, 79, 80, 81, 82, 83, 84, 85, 86, 87, 88, 89, 90, 91, 92, 93, 94, 95, 10, 96, 97, 98, 99, 100, 101, 181, 182, 183, 184, 185, 186, 187, 188, 189, 190, 191, 192, 193, 194, 195, 196, 197, 198] (by decide +kernel) (by decide +kernel)
set_option maxRecDepth 20000 in
theorem gX4_read_X0_keep : GoodIn wsX4_read (wsV RX4 59 RX0 yX0_keep wsX0_keep) := goodIn_app (goodIn_of _ (by decide +kernel)) ggX4_read_X0_keep
set_option maxRecDepth 20000 in
theorem ggX4_read_X2_begin : GoodIn wsX4_read wsX2_begin := goodIn_r _ [16, 17, 18, 176, 177, 178, 179, 180] (by decide +kernel) (by decide +kernel)
set_option maxRecDepth 20000 in
theorem gX4_read_X2_begin : GoodIn wsX4_read (wsV RX4 111 RX2 yX2_begin wsX2_begin) := goodIn_app (goodIn_of _ (by decide +kernel)) ggX4_read_X2_begin
set_option maxRecDepth 20000 in
theorem ggX4_read_X4_stampsForWhatWasRead : GoodIn wsX4_read wsX4_stampsForWhatWasRead := goodIn_r _ [105, 2, 3, 106, 107, 108, 109, 110, 111, 112, 78, 113, 81, 114, 115, 116, 117, 91, 82, 118, 119, 120, 121, 80, 86, 122, 123, 124, 125, 85, 126, 127, 128, 129, 83, 92, 130, 131, 132, 133, 134, 135, 73, 136, 137, 138, 139, 140, 141, 10, 142, 143, 144, 145, 146, 147, 148, 149, 150, 151, 152, 153, 154, 84, 89, 155, 156, 157, 158, 159, 160, 161, 162, 163, 72, 74, 164, 165, 166, 167, 87, 90, 93, 168, 169, 170, 171, 172, 173, 176, 177, 178, 179, 180, 184, 185, 186, 187, 188, 189, 190, 191, 192, 193, 194, 195, 196, 197, 198] (by decide +kernel) (by decide +kernel)
set_option maxRecDepth 20000 in
theorem gX4_read_X4_stampsForWhatWasRead : GoodIn wsX4_read (wsV RX4 121 RX4 yX4_stampsForWhatWasRead wsX4_stampsForWhatWasRead) := goodIn_app (goodIn_of _ (by decide +kernel)) ggX4_read_X4_stampsForWhatWasRead
set_option maxRecDepth 20000 in
theorem ggX4_read_X2_takes : GoodIn wsX4_read wsX2_takes := goodIn_r _ [22, 17, 23, 24, 25, 26, 15, 27, 28, 29, 30, 31, 32, 10, 33, 34, 35, 36, 37, 38, 39, 40, 41, 42, 43, 44, 45, 46, 47, 48, 49, 50, 51, 52, 53, 54, 18, 55, 56, 57, 58, 176, 177, 178, 179, 180] (by decide +kernel) (by decide +kernel)
set_option maxRecDepth 20000 in
theorem gX4_read_X2_takes : GoodIn wsX4_read (wsV RX4 124 RX2 yX2_takes wsX2_takes) := goodIn_app (goodIn_of _ (by decide +kernel)) ggX4_read_X2_takes
theorem dX4_read_0 : decode cX4_read 0 = .ok (.aload_n 0, 1) := by decide +kernel
theorem dX4_read_1 : decode cX4_read 1 = .ok (.invokevirtual 107, 3) := by decide +kernel
theorem dX4_read_4 : decode cX4_read 4 = .ok (.bipush (-6), 2) := by decide +kernel
theorem dX4_read_6 : decode cX4_read 6 = .ok (.if_icmp .eq 6, 3) := by decide +kernel
theorem dX4_read_9 : decode cX4_read 9 = .ok (.bipush (-3), 2) := by decide +kernel
theorem dX4_read_11 : decode cX4_read 11 = .ok (.ireturn, 1) := by decide +kernel
theorem dX4_read_12 : decode cX4_read 12 = .ok (.aload_n 0, 1) := by decide +kernel
theorem dX4_read_13 : decode cX4_read 13 = .ok (.getfield 19, 3) := by decide +kernel
theorem dX4_read_16 : decode cX4_read 16 = .ok (.aload_n 0, 1) := by decide +kernel
theorem dX4_read_17 : decode cX4_read 17 = .ok (.getfield 10, 3) := by decide +kernel
theorem dX4_read_20 : decode cX4_read 20 = .ok (.invokevirtual 59, 3) := by decide +kernel
theorem dX4_read_23 : decode cX4_read 23 = .ok (.iconst 0, 1) := by decide +kernel
theorem dX4_read_24 : decode cX4_read 24 = .ok (.istore_n 1, 1) := by decide +kernel
theorem dX4_read_25 : decode cX4_read 25 = .ok (.aload_n 0, 1) := by decide +kernel
theorem dX4_read_26 : decode cX4_read 26 = .ok (.getfield 41, 3) := by decide +kernel
theorem dX4_read_29 : decode cX4_read 29 = .ok (.invokevirtual 111, 3) := by decide +kernel
theorem dX4_read_32 : decode cX4_read 32 = .ok (.iconst 0, 1) := by decide +kernel
theorem dX4_read_33 : decode cX4_read 33 = .ok (.istore_n 2, 1) := by decide +kernel
theorem dX4_read_34 : decode cX4_read 34 = .ok (.iload_n 2, 1) := by decide +kernel
theorem dX4_read_35 : decode cX4_read 35 = .ok (.aload_n 0, 1) := by decide +kernel
theorem dX4_read_36 : decode cX4_read 36 = .ok (.getfield 34, 3) := by decide +kernel
theorem dX4_read_39 : decode cX4_read 39 = .ok (.getfield 114, 3) := by decide +kernel
theorem dX4_read_42 : decode cX4_read 42 = .ok (.if_icmp .ge 47, 3) := by decide +kernel
theorem dX4_read_45 : decode cX4_read 45 = .ok (.aload_n 0, 1) := by decide +kernel
theorem dX4_read_46 : decode cX4_read 46 = .ok (.getfield 34, 3) := by decide +kernel
theorem dX4_read_49 : decode cX4_read 49 = .ok (.getfield 117, 3) := by decide +kernel
theorem dX4_read_52 : decode cX4_read 52 = .ok (.iload_n 2, 1) := by decide +kernel
theorem dX4_read_53 : decode cX4_read 53 = .ok (.caload, 1) := by decide +kernel
theorem dX4_read_54 : decode cX4_read 54 = .ok (.bipush 44, 2) := by decide +kernel
theorem dX4_read_56 : decode cX4_read 56 = .ok (.if_icmp .ne 10, 3) := by decide +kernel
theorem dX4_read_59 : decode cX4_read 59 = .ok (.iload_n 1, 1) := by decide +kernel
theorem dX4_read_60 : decode cX4_read 60 = .ok (.aload_n 0, 1) := by decide +kernel
theorem dX4_read_61 : decode cX4_read 61 = .ok (.invokevirtual 121, 3) := by decide +kernel
theorem dX4_read_64 : decode cX4_read 64 = .ok (.iadd, 1) := by decide +kernel
theorem dX4_read_65 : decode cX4_read 65 = .ok (.istore_n 1, 1) := by decide +kernel
theorem dX4_read_66 : decode cX4_read 66 = .ok (.aload_n 0, 1) := by decide +kernel
theorem dX4_read_67 : decode cX4_read 67 = .ok (.getfield 41, 3) := by decide +kernel
theorem dX4_read_70 : decode cX4_read 70 = .ok (.aload_n 0, 1) := by decide +kernel
theorem dX4_read_71 : decode cX4_read 71 = .ok (.getfield 34, 3) := by decide +kernel
theorem dX4_read_74 : decode cX4_read 74 = .ok (.getfield 117, 3) := by decide +kernel
theorem dX4_read_77 : decode cX4_read 77 = .ok (.iload_n 2, 1) := by decide +kernel
theorem dX4_read_78 : decode cX4_read 78 = .ok (.caload, 1) := by decide +kernel
theorem dX4_read_79 : decode cX4_read 79 = .ok (.invokevirtual 124, 3) := by decide +kernel
theorem dX4_read_82 : decode cX4_read 82 = .ok (.pop, 1) := by decide +kernel
theorem dX4_read_83 : decode cX4_read 83 = .ok (.iinc 2 1, 3) := by decide +kernel
theorem dX4_read_86 : decode cX4_read 86 = .ok (.goto (-52), 3) := by decide +kernel
theorem dX4_read_89 : decode cX4_read 89 = .ok (.iload_n 1, 1) := by decide +kernel
theorem dX4_read_90 : decode cX4_read 90 = .ok (.aload_n 0, 1) := by decide +kernel
theorem dX4_read_91 : decode cX4_read 91 = .ok (.invokevirtual 121, 3) := by decide +kernel
theorem dX4_read_94 : decode cX4_read 94 = .ok (.iadd, 1) := by decide +kernel
theorem dX4_read_95 : decode cX4_read 95 = .ok (.istore_n 1, 1) := by decide +kernel
theorem dX4_read_96 : decode cX4_read 96 = .ok (.aload_n 0, 1) := by decide +kernel
theorem dX4_read_97 : decode cX4_read 97 = .ok (.getfield 34, 3) := by decide +kernel
theorem dX4_read_100 : decode cX4_read 100 = .ok (.iconst 0, 1) := by decide +kernel
theorem dX4_read_101 : decode cX4_read 101 = .ok (.putfield 114, 3) := by decide +kernel
theorem dX4_read_104 : decode cX4_read 104 = .ok (.iload_n 1, 1) := by decide +kernel
theorem dX4_read_105 : decode cX4_read 105 = .ok (.ireturn, 1) := by decide +kernel
set_option maxRecDepth 20000 in
theorem ggX4_excuse_X3_hasExcuse : GoodIn wsX4_excuse wsX3_hasExcuse := goodIn_r _ [9, 10, 30, 31, 32, 33, 34, 35, 36, 37, 38, 39, 40, 41, 42, 43, 44] (by decide +kernel) (by decide +kernel)
set_option maxRecDepth 20000 in
theorem gX4_excuse_X3_hasExcuse : GoodIn wsX4_excuse (wsV RX4 74 RX3 yX3_hasExcuse wsX3_hasExcuse) := goodIn_app (goodIn_of _ (by decide +kernel)) ggX4_excuse_X3_hasExcuse
set_option maxRecDepth 20000 in
theorem ggX4_excuse_X3_usesBySchool : GoodIn wsX4_excuse wsX3_usesBySchool := goodIn_r _ [14, 15, 30, 31, 32, 33, 34, 35, 36, 37, 38, 39, 40, 41, 42, 43, 44] (by decide +kernel) (by decide +kernel)
set_option maxRecDepth 20000 in
theorem gX4_excuse_X3_usesBySchool : GoodIn wsX4_excuse (wsV RX4 131 RX3 yX3_usesBySchool wsX3_usesBySchool) := goodIn_app (goodIn_of _ (by decide +kernel)) ggX4_excuse_X3_usesBySchool
set_option maxRecDepth 20000 in
theorem ggX4_excuse_X3_usersOf : GoodIn wsX4_excuse wsX3_usersOf := goodIn_r _ [19, 20, 21, 22, 8, 23, 15, 30, 31, 32, 33, 34, 35, 36, 37, 38, 39, 40, 41, 42, 43, 44] (by decide +kernel) (by decide +kernel)
set_option maxRecDepth 20000 in
theorem gX4_excuse_X3_usersOf : GoodIn wsX4_excuse (wsV RX4 138 RX3 yX3_usersOf wsX3_usersOf) := goodIn_app (goodIn_of _ (by decide +kernel)) ggX4_excuse_X3_usersOf
theorem dX4_excuse_0 : decode cX4_excuse 0 = .ok (.aload_n 0, 1) := by decide +kernel
theorem dX4_excuse_1 : decode cX4_excuse 1 = .ok (.getfield 10, 3) := by decide +kernel
theorem dX4_excuse_4 : decode cX4_excuse 4 = .ok (.iload_n 1, 1) := by decide +kernel
theorem dX4_excuse_5 : decode cX4_excuse 5 = .ok (.invokevirtual 74, 3) := by decide +kernel
theorem dX4_excuse_8 : decode cX4_excuse 8 = .ok (.ifCond .ne 5, 3) := by decide +kernel
theorem dX4_excuse_11 : decode cX4_excuse 11 = .ok (.iconst (-1), 1) := by decide +kernel
theorem dX4_excuse_12 : decode cX4_excuse 12 = .ok (.ireturn, 1) := by decide +kernel
theorem dX4_excuse_13 : decode cX4_excuse 13 = .ok (.iload_n 2, 1) := by decide +kernel
theorem dX4_excuse_14 : decode cX4_excuse 14 = .ok (.tableswitch 82 0 4 #[34, 44, 54, 63, 73], 34) := by decide +kernel
theorem dX4_excuse_48 : decode cX4_excuse 48 = .ok (.aload_n 0, 1) := by decide +kernel
theorem dX4_excuse_49 : decode cX4_excuse 49 = .ok (.getfield 10, 3) := by decide +kernel
theorem dX4_excuse_52 : decode cX4_excuse 52 = .ok (.getfield 128, 3) := by decide +kernel
theorem dX4_excuse_55 : decode cX4_excuse 55 = .ok (.iload_n 1, 1) := by decide +kernel
theorem dX4_excuse_56 : decode cX4_excuse 56 = .ok (.iaload, 1) := by decide +kernel
theorem dX4_excuse_57 : decode cX4_excuse 57 = .ok (.ireturn, 1) := by decide +kernel
theorem dX4_excuse_58 : decode cX4_excuse 58 = .ok (.aload_n 0, 1) := by decide +kernel
theorem dX4_excuse_59 : decode cX4_excuse 59 = .ok (.getfield 10, 3) := by decide +kernel
theorem dX4_excuse_62 : decode cX4_excuse 62 = .ok (.getfield 78, 3) := by decide +kernel
theorem dX4_excuse_65 : decode cX4_excuse 65 = .ok (.iload_n 1, 1) := by decide +kernel
theorem dX4_excuse_66 : decode cX4_excuse 66 = .ok (.iaload, 1) := by decide +kernel
theorem dX4_excuse_67 : decode cX4_excuse 67 = .ok (.ireturn, 1) := by decide +kernel
theorem dX4_excuse_68 : decode cX4_excuse 68 = .ok (.aload_n 0, 1) := by decide +kernel
theorem dX4_excuse_69 : decode cX4_excuse 69 = .ok (.getfield 10, 3) := by decide +kernel
theorem dX4_excuse_72 : decode cX4_excuse 72 = .ok (.iload_n 1, 1) := by decide +kernel
theorem dX4_excuse_73 : decode cX4_excuse 73 = .ok (.invokevirtual 131, 3) := by decide +kernel
theorem dX4_excuse_76 : decode cX4_excuse 76 = .ok (.ireturn, 1) := by decide +kernel
theorem dX4_excuse_77 : decode cX4_excuse 77 = .ok (.aload_n 0, 1) := by decide +kernel
theorem dX4_excuse_78 : decode cX4_excuse 78 = .ok (.getfield 10, 3) := by decide +kernel
theorem dX4_excuse_81 : decode cX4_excuse 81 = .ok (.getfield 135, 3) := by decide +kernel
theorem dX4_excuse_84 : decode cX4_excuse 84 = .ok (.iload_n 1, 1) := by decide +kernel
theorem dX4_excuse_85 : decode cX4_excuse 85 = .ok (.iaload, 1) := by decide +kernel
theorem dX4_excuse_86 : decode cX4_excuse 86 = .ok (.ireturn, 1) := by decide +kernel
theorem dX4_excuse_87 : decode cX4_excuse 87 = .ok (.aload_n 0, 1) := by decide +kernel
theorem dX4_excuse_88 : decode cX4_excuse 88 = .ok (.getfield 10, 3) := by decide +kernel
theorem dX4_excuse_91 : decode cX4_excuse 91 = .ok (.iload_n 1, 1) := by decide +kernel
theorem dX4_excuse_92 : decode cX4_excuse 92 = .ok (.invokevirtual 138, 3) := by decide +kernel
theorem dX4_excuse_95 : decode cX4_excuse 95 = .ok (.ireturn, 1) := by decide +kernel
theorem dX4_excuse_96 : decode cX4_excuse 96 = .ok (.bipush (-2), 2) := by decide +kernel
theorem dX4_excuse_98 : decode cX4_excuse 98 = .ok (.ireturn, 1) := by decide +kernel
set_option maxRecDepth 20000 in
theorem ggX4_pupil_X4_isPupil : GoodIn wsX4_pupil wsX4_isPupil := goodIn_r _ [12, 13, 14, 11, 15] (by decide +kernel) (by decide +kernel)
set_option maxRecDepth 20000 in
theorem gX4_pupil_X4_isPupil : GoodIn wsX4_pupil (va_wsS RX4 88 yX4_isPupil wsX4_isPupil) := goodIn_app (goodIn_of _ (by decide +kernel)) ggX4_pupil_X4_isPupil
set_option maxRecDepth 20000 in
theorem ggX4_pupil_X3_usesByPupil : GoodIn wsX4_pupil wsX3_usesByPupil := goodIn_r _ [20, 21, 22, 23, 19, 24, 25, 35, 36, 37, 38, 39, 40, 41, 42, 43, 44, 45, 46, 47, 48, 49] (by decide +kernel) (by decide +kernel)
set_option maxRecDepth 20000 in
theorem gX4_pupil_X3_usesByPupil : GoodIn wsX4_pupil (wsV RX4 153 RX3 yX3_usesByPupil wsX3_usesByPupil) := goodIn_app (goodIn_of _ (by decide +kernel)) ggX4_pupil_X3_usesByPupil
set_option maxRecDepth 20000 in
theorem ggX4_pupil_X4_classOf : GoodIn wsX4_pupil wsX4_classOf := goodIn_r _ [28] (by decide +kernel) (by decide +kernel)
set_option maxRecDepth 20000 in
theorem gX4_pupil_X4_classOf : GoodIn wsX4_pupil (va_wsS RX4 159 yX4_classOf wsX4_classOf) := goodIn_app (goodIn_of _ (by decide +kernel)) ggX4_pupil_X4_classOf
theorem dX4_pupil_0 : decode cX4_pupil 0 = .ok (.iload_n 1, 1) := by decide +kernel
theorem dX4_pupil_1 : decode cX4_pupil 1 = .ok (.invokestatic 88, 3) := by decide +kernel
theorem dX4_pupil_4 : decode cX4_pupil 4 = .ok (.ifCond .ne 5, 3) := by decide +kernel
theorem dX4_pupil_7 : decode cX4_pupil 7 = .ok (.iconst (-1), 1) := by decide +kernel
theorem dX4_pupil_8 : decode cX4_pupil 8 = .ok (.ireturn, 1) := by decide +kernel
theorem dX4_pupil_9 : decode cX4_pupil 9 = .ok (.iload_n 2, 1) := by decide +kernel
theorem dX4_pupil_10 : decode cX4_pupil 10 = .ok (.tableswitch 128 0 7 #[46, 56, 66, 76, 86, 96, 105, 118], 46) := by decide +kernel
theorem dX4_pupil_56 : decode cX4_pupil 56 = .ok (.aload_n 0, 1) := by decide +kernel
theorem dX4_pupil_57 : decode cX4_pupil 57 = .ok (.getfield 10, 3) := by decide +kernel
theorem dX4_pupil_60 : decode cX4_pupil 60 = .ok (.getfield 141, 3) := by decide +kernel
theorem dX4_pupil_63 : decode cX4_pupil 63 = .ok (.iload_n 1, 1) := by decide +kernel
theorem dX4_pupil_64 : decode cX4_pupil 64 = .ok (.iaload, 1) := by decide +kernel
theorem dX4_pupil_65 : decode cX4_pupil 65 = .ok (.ireturn, 1) := by decide +kernel
theorem dX4_pupil_66 : decode cX4_pupil 66 = .ok (.aload_n 0, 1) := by decide +kernel
theorem dX4_pupil_67 : decode cX4_pupil 67 = .ok (.getfield 10, 3) := by decide +kernel
theorem dX4_pupil_70 : decode cX4_pupil 70 = .ok (.getfield 91, 3) := by decide +kernel
theorem dX4_pupil_73 : decode cX4_pupil 73 = .ok (.iload_n 1, 1) := by decide +kernel
theorem dX4_pupil_74 : decode cX4_pupil 74 = .ok (.iaload, 1) := by decide +kernel
theorem dX4_pupil_75 : decode cX4_pupil 75 = .ok (.ireturn, 1) := by decide +kernel
theorem dX4_pupil_76 : decode cX4_pupil 76 = .ok (.aload_n 0, 1) := by decide +kernel
theorem dX4_pupil_77 : decode cX4_pupil 77 = .ok (.getfield 10, 3) := by decide +kernel
theorem dX4_pupil_80 : decode cX4_pupil 80 = .ok (.getfield 144, 3) := by decide +kernel
theorem dX4_pupil_83 : decode cX4_pupil 83 = .ok (.iload_n 1, 1) := by decide +kernel
theorem dX4_pupil_84 : decode cX4_pupil 84 = .ok (.iaload, 1) := by decide +kernel
theorem dX4_pupil_85 : decode cX4_pupil 85 = .ok (.ireturn, 1) := by decide +kernel
theorem dX4_pupil_86 : decode cX4_pupil 86 = .ok (.aload_n 0, 1) := by decide +kernel
theorem dX4_pupil_87 : decode cX4_pupil 87 = .ok (.getfield 10, 3) := by decide +kernel
theorem dX4_pupil_90 : decode cX4_pupil 90 = .ok (.getfield 147, 3) := by decide +kernel
theorem dX4_pupil_93 : decode cX4_pupil 93 = .ok (.iload_n 1, 1) := by decide +kernel
theorem dX4_pupil_94 : decode cX4_pupil 94 = .ok (.iaload, 1) := by decide +kernel
theorem dX4_pupil_95 : decode cX4_pupil 95 = .ok (.ireturn, 1) := by decide +kernel
theorem dX4_pupil_96 : decode cX4_pupil 96 = .ok (.aload_n 0, 1) := by decide +kernel
theorem dX4_pupil_97 : decode cX4_pupil 97 = .ok (.getfield 10, 3) := by decide +kernel
theorem dX4_pupil_100 : decode cX4_pupil 100 = .ok (.getfield 150, 3) := by decide +kernel
theorem dX4_pupil_103 : decode cX4_pupil 103 = .ok (.iload_n 1, 1) := by decide +kernel
theorem dX4_pupil_104 : decode cX4_pupil 104 = .ok (.iaload, 1) := by decide +kernel
theorem dX4_pupil_105 : decode cX4_pupil 105 = .ok (.ireturn, 1) := by decide +kernel
theorem dX4_pupil_106 : decode cX4_pupil 106 = .ok (.aload_n 0, 1) := by decide +kernel
theorem dX4_pupil_107 : decode cX4_pupil 107 = .ok (.getfield 10, 3) := by decide +kernel
theorem dX4_pupil_110 : decode cX4_pupil 110 = .ok (.iload_n 1, 1) := by decide +kernel
theorem dX4_pupil_111 : decode cX4_pupil 111 = .ok (.invokevirtual 153, 3) := by decide +kernel
theorem dX4_pupil_114 : decode cX4_pupil 114 = .ok (.ireturn, 1) := by decide +kernel
theorem dX4_pupil_115 : decode cX4_pupil 115 = .ok (.aload_n 0, 1) := by decide +kernel
theorem dX4_pupil_116 : decode cX4_pupil 116 = .ok (.getfield 10, 3) := by decide +kernel
theorem dX4_pupil_119 : decode cX4_pupil 119 = .ok (.getfield 156, 3) := by decide +kernel
theorem dX4_pupil_122 : decode cX4_pupil 122 = .ok (.iload_n 1, 1) := by decide +kernel
theorem dX4_pupil_123 : decode cX4_pupil 123 = .ok (.invokestatic 159, 3) := by decide +kernel
theorem dX4_pupil_126 : decode cX4_pupil 126 = .ok (.iaload, 1) := by decide +kernel
theorem dX4_pupil_127 : decode cX4_pupil 127 = .ok (.ireturn, 1) := by decide +kernel
theorem dX4_pupil_128 : decode cX4_pupil 128 = .ok (.aload_n 0, 1) := by decide +kernel
theorem dX4_pupil_129 : decode cX4_pupil 129 = .ok (.getfield 10, 3) := by decide +kernel
theorem dX4_pupil_132 : decode cX4_pupil 132 = .ok (.getfield 94, 3) := by decide +kernel
theorem dX4_pupil_135 : decode cX4_pupil 135 = .ok (.iload_n 1, 1) := by decide +kernel
theorem dX4_pupil_136 : decode cX4_pupil 136 = .ok (.iaload, 1) := by decide +kernel
theorem dX4_pupil_137 : decode cX4_pupil 137 = .ok (.ireturn, 1) := by decide +kernel
theorem dX4_pupil_138 : decode cX4_pupil 138 = .ok (.bipush (-2), 2) := by decide +kernel
theorem dX4_pupil_140 : decode cX4_pupil 140 = .ok (.ireturn, 1) := by decide +kernel
set_option maxRecDepth 20000 in
theorem ggX4_novelty_X4_isPupil : GoodIn wsX4_novelty wsX4_isPupil := goodIn_r _ [5, 6, 7, 4, 8] (by decide +kernel) (by decide +kernel)
set_option maxRecDepth 20000 in
theorem gX4_novelty_X4_isPupil : GoodIn wsX4_novelty (va_wsS RX4 88 yX4_isPupil wsX4_isPupil) := goodIn_app (goodIn_of _ (by decide +kernel)) ggX4_novelty_X4_isPupil
set_option maxRecDepth 20000 in
theorem ggX4_novelty_X3_hasExcuse : GoodIn wsX4_novelty wsX3_hasExcuse := goodIn_r _ [13, 14, 41, 42, 43, 44, 45, 46, 47, 48, 49, 50, 51, 52, 53, 54, 55] (by decide +kernel) (by decide +kernel)
set_option maxRecDepth 20000 in
theorem gX4_novelty_X3_hasExcuse : GoodIn wsX4_novelty (wsV RX4 74 RX3 yX3_hasExcuse wsX3_hasExcuse) := goodIn_app (goodIn_of _ (by decide +kernel)) ggX4_novelty_X3_hasExcuse
set_option maxRecDepth 20000 in
theorem ggX4_novelty_X3_noveltyFor : GoodIn wsX4_novelty wsX3_noveltyFor := goodIn_r _ [18, 19, 20, 21, 22, 23, 24, 25, 26, 12, 27, 28, 29, 4, 30, 31, 32, 33, 34, 41, 42, 43, 44, 45, 46, 47, 48, 49, 50, 51, 52, 53, 54, 55] (by decide +kernel) (by decide +kernel)
set_option maxRecDepth 20000 in
theorem gX4_novelty_X3_noveltyFor : GoodIn wsX4_novelty (wsV RX4 162 RX3 yX3_noveltyFor wsX3_noveltyFor) := goodIn_app (goodIn_of _ (by decide +kernel)) ggX4_novelty_X3_noveltyFor
theorem dX4_novelty_0 : decode cX4_novelty 0 = .ok (.iload_n 1, 1) := by decide +kernel
theorem dX4_novelty_1 : decode cX4_novelty 1 = .ok (.invokestatic 88, 3) := by decide +kernel
theorem dX4_novelty_4 : decode cX4_novelty 4 = .ok (.ifCond .eq 14, 3) := by decide +kernel
theorem dX4_novelty_7 : decode cX4_novelty 7 = .ok (.aload_n 0, 1) := by decide +kernel
theorem dX4_novelty_8 : decode cX4_novelty 8 = .ok (.getfield 10, 3) := by decide +kernel
theorem dX4_novelty_11 : decode cX4_novelty 11 = .ok (.iload_n 2, 1) := by decide +kernel
theorem dX4_novelty_12 : decode cX4_novelty 12 = .ok (.invokevirtual 74, 3) := by decide +kernel
theorem dX4_novelty_15 : decode cX4_novelty 15 = .ok (.ifCond .ne 5, 3) := by decide +kernel
theorem dX4_novelty_18 : decode cX4_novelty 18 = .ok (.iconst (-1), 1) := by decide +kernel
theorem dX4_novelty_19 : decode cX4_novelty 19 = .ok (.ireturn, 1) := by decide +kernel
theorem dX4_novelty_20 : decode cX4_novelty 20 = .ok (.aload_n 0, 1) := by decide +kernel
theorem dX4_novelty_21 : decode cX4_novelty 21 = .ok (.getfield 10, 3) := by decide +kernel
theorem dX4_novelty_24 : decode cX4_novelty 24 = .ok (.iload_n 1, 1) := by decide +kernel
theorem dX4_novelty_25 : decode cX4_novelty 25 = .ok (.iload_n 2, 1) := by decide +kernel
theorem dX4_novelty_26 : decode cX4_novelty 26 = .ok (.invokevirtual 162, 3) := by decide +kernel
theorem dX4_novelty_29 : decode cX4_novelty 29 = .ok (.ireturn, 1) := by decide +kernel
set_option maxRecDepth 20000 in
theorem ggX4_why_X4_offerError : GoodIn wsX4_why wsX4_offerError := goodIn_r _ [6, 1, 7, 8, 5, 9, 10, 11, 12, 13, 14, 15, 16, 17, 18, 60, 61, 62, 63, 64, 65, 66, 67, 68, 69, 70, 71, 72, 73, 74, 75, 76, 77, 78, 79, 80] (by decide +kernel) (by decide +kernel)
set_option maxRecDepth 20000 in
theorem gX4_why_X4_offerError : GoodIn wsX4_why (wsV RX4 81 RX4 yX4_offerError wsX4_offerError) := goodIn_app (goodIn_of _ (by decide +kernel)) ggX4_why_X4_offerError
set_option maxRecDepth 20000 in
theorem ggX4_why_X3_reasonAgainst : GoodIn wsX4_why wsX3_reasonAgainst := goodIn_r _ [22, 23, 24, 25, 26, 27, 28, 29, 16, 30, 31, 32, 33, 34, 35, 36, 37, 38, 39, 40, 41, 42, 43, 44, 45, 46, 47, 48, 49, 50, 5, 51, 52, 53, 54, 55, 56, 57, 58, 59, 66, 67, 68, 69, 70, 71, 72, 73, 74, 75, 76, 77, 78, 79, 80] (by decide +kernel) (by decide +kernel)
set_option maxRecDepth 20000 in
theorem gX4_why_X3_reasonAgainst : GoodIn wsX4_why (wsV RX4 165 RX3 yX3_reasonAgainst wsX3_reasonAgainst) := goodIn_app (goodIn_of _ (by decide +kernel)) ggX4_why_X3_reasonAgainst
theorem dX4_why_0 : decode cX4_why 0 = .ok (.aload_n 0, 1) := by decide +kernel
theorem dX4_why_1 : decode cX4_why 1 = .ok (.iload_n 1, 1) := by decide +kernel
theorem dX4_why_2 : decode cX4_why 2 = .ok (.iload_n 2, 1) := by decide +kernel
theorem dX4_why_3 : decode cX4_why 3 = .ok (.iload_n 3, 1) := by decide +kernel
theorem dX4_why_4 : decode cX4_why 4 = .ok (.iload 4, 2) := by decide +kernel
theorem dX4_why_6 : decode cX4_why 6 = .ok (.invokevirtual 81, 3) := by decide +kernel
theorem dX4_why_9 : decode cX4_why 9 = .ok (.istore 5, 2) := by decide +kernel
theorem dX4_why_11 : decode cX4_why 11 = .ok (.iload 5, 2) := by decide +kernel
theorem dX4_why_13 : decode cX4_why 13 = .ok (.ifCond .eq 6, 3) := by decide +kernel
theorem dX4_why_16 : decode cX4_why 16 = .ok (.iload 5, 2) := by decide +kernel
theorem dX4_why_18 : decode cX4_why 18 = .ok (.ireturn, 1) := by decide +kernel
theorem dX4_why_19 : decode cX4_why 19 = .ok (.aload_n 0, 1) := by decide +kernel
theorem dX4_why_20 : decode cX4_why 20 = .ok (.getfield 10, 3) := by decide +kernel
theorem dX4_why_23 : decode cX4_why 23 = .ok (.iload_n 1, 1) := by decide +kernel
theorem dX4_why_24 : decode cX4_why 24 = .ok (.iload_n 2, 1) := by decide +kernel
theorem dX4_why_25 : decode cX4_why 25 = .ok (.iload_n 3, 1) := by decide +kernel
theorem dX4_why_26 : decode cX4_why 26 = .ok (.iload 4, 2) := by decide +kernel
theorem dX4_why_28 : decode cX4_why 28 = .ok (.invokevirtual 165, 3) := by decide +kernel
theorem dX4_why_31 : decode cX4_why 31 = .ok (.ireturn, 1) := by decide +kernel
set_option maxRecDepth 20000 in
theorem ggX4_weight_X4_offerError : GoodIn wsX4_weight wsX4_offerError := goodIn_r _ [6, 1, 7, 8, 5, 9, 10, 11, 12, 13, 14, 15, 16, 17, 18, 50, 51, 52, 53, 54, 55, 56, 57, 58, 59, 60, 61, 62, 63, 64, 65, 66, 67, 68, 69, 70] (by decide +kernel) (by decide +kernel)
set_option maxRecDepth 20000 in
theorem gX4_weight_X4_offerError : GoodIn wsX4_weight (wsV RX4 81 RX4 yX4_offerError wsX4_offerError) := goodIn_app (goodIn_of _ (by decide +kernel)) ggX4_weight_X4_offerError
set_option maxRecDepth 20000 in
theorem ggX4_weight_X3_weightOf : GoodIn wsX4_weight wsX3_weightOf := goodIn_r _ [22, 23, 24, 25, 26, 27, 28, 16, 29, 30, 31, 32, 33, 34, 35, 36, 37, 38, 39, 5, 40, 41, 42, 43, 44, 45, 46, 47, 48, 49, 56, 57, 58, 59, 60, 61, 62, 63, 64, 65, 66, 67, 68, 69, 70] (by decide +kernel) (by decide +kernel)
set_option maxRecDepth 20000 in
theorem gX4_weight_X3_weightOf : GoodIn wsX4_weight (wsV RX4 168 RX3 yX3_weightOf wsX3_weightOf) := goodIn_app (goodIn_of _ (by decide +kernel)) ggX4_weight_X3_weightOf
theorem dX4_weight_0 : decode cX4_weight 0 = .ok (.aload_n 0, 1) := by decide +kernel
theorem dX4_weight_1 : decode cX4_weight 1 = .ok (.iload_n 1, 1) := by decide +kernel
theorem dX4_weight_2 : decode cX4_weight 2 = .ok (.iload_n 2, 1) := by decide +kernel
theorem dX4_weight_3 : decode cX4_weight 3 = .ok (.iload_n 3, 1) := by decide +kernel
theorem dX4_weight_4 : decode cX4_weight 4 = .ok (.iload 4, 2) := by decide +kernel
theorem dX4_weight_6 : decode cX4_weight 6 = .ok (.invokevirtual 81, 3) := by decide +kernel
theorem dX4_weight_9 : decode cX4_weight 9 = .ok (.istore 5, 2) := by decide +kernel
theorem dX4_weight_11 : decode cX4_weight 11 = .ok (.iload 5, 2) := by decide +kernel
theorem dX4_weight_13 : decode cX4_weight 13 = .ok (.ifCond .eq 6, 3) := by decide +kernel
theorem dX4_weight_16 : decode cX4_weight 16 = .ok (.iload 5, 2) := by decide +kernel
theorem dX4_weight_18 : decode cX4_weight 18 = .ok (.ireturn, 1) := by decide +kernel
theorem dX4_weight_19 : decode cX4_weight 19 = .ok (.sipush 1000, 3) := by decide +kernel
theorem dX4_weight_22 : decode cX4_weight 22 = .ok (.aload_n 0, 1) := by decide +kernel
theorem dX4_weight_23 : decode cX4_weight 23 = .ok (.getfield 10, 3) := by decide +kernel
theorem dX4_weight_26 : decode cX4_weight 26 = .ok (.iload_n 1, 1) := by decide +kernel
theorem dX4_weight_27 : decode cX4_weight 27 = .ok (.iload_n 2, 1) := by decide +kernel
theorem dX4_weight_28 : decode cX4_weight 28 = .ok (.iload_n 3, 1) := by decide +kernel
theorem dX4_weight_29 : decode cX4_weight 29 = .ok (.iload 4, 2) := by decide +kernel
theorem dX4_weight_31 : decode cX4_weight 31 = .ok (.invokevirtual 168, 3) := by decide +kernel
theorem dX4_weight_34 : decode cX4_weight 34 = .ok (.iadd, 1) := by decide +kernel
theorem dX4_weight_35 : decode cX4_weight 35 = .ok (.ireturn, 1) := by decide +kernel
set_option maxRecDepth 20000 in
theorem ggX4_count_X4_isWithin : GoodIn wsX4_count wsX4_isWithin := goodIn_r _ [19] (by decide +kernel) (by decide +kernel)
set_option maxRecDepth 20000 in
theorem gX4_count_X4_isWithin : GoodIn wsX4_count (va_wsS RX4 49 yX4_isWithin wsX4_isWithin) := goodIn_app (goodIn_of _ (by decide +kernel)) ggX4_count_X4_isWithin
set_option maxRecDepth 20000 in
theorem ggX4_count_X4_sum : GoodIn wsX4_count wsX4_sum := goodIn_r _ [22] (by decide +kernel) (by decide +kernel)
set_option maxRecDepth 20000 in
theorem gX4_count_X4_sum : GoodIn wsX4_count (va_wsS RX4 100 yX4_sum wsX4_sum) := goodIn_app (goodIn_of _ (by decide +kernel)) ggX4_count_X4_sum
set_option maxRecDepth 20000 in
theorem ggX4_count_X3_wornOutExcuses : GoodIn wsX4_count wsX3_wornOutExcuses := goodIn_r _ [27, 28, 29, 30, 31, 26, 32, 33, 34, 35, 36, 37, 38, 39, 40, 41, 42, 43, 44, 45, 46, 47, 18, 48, 49, 50, 51, 52, 59, 60, 61, 62, 63, 64, 65, 66, 67, 68, 69, 70, 71, 72, 73] (by decide +kernel) (by decide +kernel)
set_option maxRecDepth 20000 in
theorem gX4_count_X3_wornOutExcuses : GoodIn wsX4_count (wsV RX4 177 RX3 yX3_wornOutExcuses wsX3_wornOutExcuses) := goodIn_app (goodIn_of _ (by decide +kernel)) ggX4_count_X3_wornOutExcuses
theorem dX4_count_0 : decode cX4_count 0 = .ok (.iload_n 1, 1) := by decide +kernel
theorem dX4_count_1 : decode cX4_count 1 = .ok (.iconst 0, 1) := by decide +kernel
theorem dX4_count_2 : decode cX4_count 2 = .ok (.getstatic 45, 3) := by decide +kernel
theorem dX4_count_5 : decode cX4_count 5 = .ok (.arraylength, 1) := by decide +kernel
theorem dX4_count_6 : decode cX4_count 6 = .ok (.iconst 1, 1) := by decide +kernel
theorem dX4_count_7 : decode cX4_count 7 = .ok (.isub, 1) := by decide +kernel
theorem dX4_count_8 : decode cX4_count 8 = .ok (.invokestatic 49, 3) := by decide +kernel
theorem dX4_count_11 : decode cX4_count 11 = .ok (.ifCond .eq 13, 3) := by decide +kernel
theorem dX4_count_14 : decode cX4_count 14 = .ok (.aload_n 0, 1) := by decide +kernel
theorem dX4_count_15 : decode cX4_count 15 = .ok (.getfield 10, 3) := by decide +kernel
theorem dX4_count_18 : decode cX4_count 18 = .ok (.getfield 63, 3) := by decide +kernel
theorem dX4_count_21 : decode cX4_count 21 = .ok (.iload_n 1, 1) := by decide +kernel
theorem dX4_count_22 : decode cX4_count 22 = .ok (.iaload, 1) := by decide +kernel
theorem dX4_count_23 : decode cX4_count 23 = .ok (.ireturn, 1) := by decide +kernel
theorem dX4_count_24 : decode cX4_count 24 = .ok (.iload_n 1, 1) := by decide +kernel
theorem dX4_count_25 : decode cX4_count 25 = .ok (.tableswitch 207 5 19 #[75, 83, 94, 94, 94, 94, 109, 120, 131, 153, 161, 172, 183, 191, 199], 75) := by decide +kernel
theorem dX4_count_100 : decode cX4_count 100 = .ok (.aload_n 0, 1) := by decide +kernel
theorem dX4_count_101 : decode cX4_count 101 = .ok (.getfield 10, 3) := by decide +kernel
theorem dX4_count_104 : decode cX4_count 104 = .ok (.getfield 66, 3) := by decide +kernel
theorem dX4_count_107 : decode cX4_count 107 = .ok (.ireturn, 1) := by decide +kernel
theorem dX4_count_108 : decode cX4_count 108 = .ok (.aload_n 0, 1) := by decide +kernel
theorem dX4_count_109 : decode cX4_count 109 = .ok (.getfield 10, 3) := by decide +kernel
theorem dX4_count_112 : decode cX4_count 112 = .ok (.getfield 144, 3) := by decide +kernel
theorem dX4_count_115 : decode cX4_count 115 = .ok (.invokestatic 100, 3) := by decide +kernel
theorem dX4_count_118 : decode cX4_count 118 = .ok (.ireturn, 1) := by decide +kernel
theorem dX4_count_119 : decode cX4_count 119 = .ok (.aload_n 0, 1) := by decide +kernel
theorem dX4_count_120 : decode cX4_count 120 = .ok (.getfield 10, 3) := by decide +kernel
theorem dX4_count_123 : decode cX4_count 123 = .ok (.getfield 171, 3) := by decide +kernel
theorem dX4_count_126 : decode cX4_count 126 = .ok (.iload_n 1, 1) := by decide +kernel
theorem dX4_count_127 : decode cX4_count 127 = .ok (.bipush 7, 2) := by decide +kernel
theorem dX4_count_129 : decode cX4_count 129 = .ok (.isub, 1) := by decide +kernel
theorem dX4_count_130 : decode cX4_count 130 = .ok (.iconst 1, 1) := by decide +kernel
theorem dX4_count_131 : decode cX4_count 131 = .ok (.iadd, 1) := by decide +kernel
theorem dX4_count_132 : decode cX4_count 132 = .ok (.iaload, 1) := by decide +kernel
theorem dX4_count_133 : decode cX4_count 133 = .ok (.ireturn, 1) := by decide +kernel
theorem dX4_count_134 : decode cX4_count 134 = .ok (.aload_n 0, 1) := by decide +kernel
theorem dX4_count_135 : decode cX4_count 135 = .ok (.getfield 10, 3) := by decide +kernel
theorem dX4_count_138 : decode cX4_count 138 = .ok (.getfield 91, 3) := by decide +kernel
theorem dX4_count_141 : decode cX4_count 141 = .ok (.invokestatic 100, 3) := by decide +kernel
theorem dX4_count_144 : decode cX4_count 144 = .ok (.ireturn, 1) := by decide +kernel
theorem dX4_count_145 : decode cX4_count 145 = .ok (.aload_n 0, 1) := by decide +kernel
theorem dX4_count_146 : decode cX4_count 146 = .ok (.getfield 10, 3) := by decide +kernel
theorem dX4_count_149 : decode cX4_count 149 = .ok (.getfield 94, 3) := by decide +kernel
theorem dX4_count_152 : decode cX4_count 152 = .ok (.invokestatic 100, 3) := by decide +kernel
theorem dX4_count_155 : decode cX4_count 155 = .ok (.ireturn, 1) := by decide +kernel
theorem dX4_count_156 : decode cX4_count 156 = .ok (.aload_n 0, 1) := by decide +kernel
theorem dX4_count_157 : decode cX4_count 157 = .ok (.getfield 10, 3) := by decide +kernel
theorem dX4_count_160 : decode cX4_count 160 = .ok (.getfield 91, 3) := by decide +kernel
theorem dX4_count_163 : decode cX4_count 163 = .ok (.invokestatic 100, 3) := by decide +kernel
theorem dX4_count_166 : decode cX4_count 166 = .ok (.aload_n 0, 1) := by decide +kernel
theorem dX4_count_167 : decode cX4_count 167 = .ok (.getfield 10, 3) := by decide +kernel
theorem dX4_count_170 : decode cX4_count 170 = .ok (.getfield 94, 3) := by decide +kernel
theorem dX4_count_173 : decode cX4_count 173 = .ok (.invokestatic 100, 3) := by decide +kernel
theorem dX4_count_176 : decode cX4_count 176 = .ok (.iadd, 1) := by decide +kernel
theorem dX4_count_177 : decode cX4_count 177 = .ok (.ireturn, 1) := by decide +kernel
theorem dX4_count_178 : decode cX4_count 178 = .ok (.aload_n 0, 1) := by decide +kernel
theorem dX4_count_179 : decode cX4_count 179 = .ok (.getfield 10, 3) := by decide +kernel
theorem dX4_count_182 : decode cX4_count 182 = .ok (.getfield 174, 3) := by decide +kernel
theorem dX4_count_185 : decode cX4_count 185 = .ok (.ireturn, 1) := by decide +kernel
theorem dX4_count_186 : decode cX4_count 186 = .ok (.aload_n 0, 1) := by decide +kernel
theorem dX4_count_187 : decode cX4_count 187 = .ok (.getfield 10, 3) := by decide +kernel
theorem dX4_count_190 : decode cX4_count 190 = .ok (.getfield 141, 3) := by decide +kernel
theorem dX4_count_193 : decode cX4_count 193 = .ok (.invokestatic 100, 3) := by decide +kernel
theorem dX4_count_196 : decode cX4_count 196 = .ok (.ireturn, 1) := by decide +kernel
theorem dX4_count_197 : decode cX4_count 197 = .ok (.aload_n 0, 1) := by decide +kernel
theorem dX4_count_198 : decode cX4_count 198 = .ok (.getfield 10, 3) := by decide +kernel
theorem dX4_count_201 : decode cX4_count 201 = .ok (.getfield 156, 3) := by decide +kernel
theorem dX4_count_204 : decode cX4_count 204 = .ok (.invokestatic 100, 3) := by decide +kernel
theorem dX4_count_207 : decode cX4_count 207 = .ok (.ireturn, 1) := by decide +kernel
theorem dX4_count_208 : decode cX4_count 208 = .ok (.aload_n 0, 1) := by decide +kernel
theorem dX4_count_209 : decode cX4_count 209 = .ok (.getfield 10, 3) := by decide +kernel
theorem dX4_count_212 : decode cX4_count 212 = .ok (.invokevirtual 177, 3) := by decide +kernel
theorem dX4_count_215 : decode cX4_count 215 = .ok (.ireturn, 1) := by decide +kernel
theorem dX4_count_216 : decode cX4_count 216 = .ok (.aload_n 0, 1) := by decide +kernel
theorem dX4_count_217 : decode cX4_count 217 = .ok (.getfield 34, 3) := by decide +kernel
theorem dX4_count_220 : decode cX4_count 220 = .ok (.getfield 114, 3) := by decide +kernel
theorem dX4_count_223 : decode cX4_count 223 = .ok (.ireturn, 1) := by decide +kernel
theorem dX4_count_224 : decode cX4_count 224 = .ok (.aload_n 0, 1) := by decide +kernel
theorem dX4_count_225 : decode cX4_count 225 = .ok (.getfield 19, 3) := by decide +kernel
theorem dX4_count_228 : decode cX4_count 228 = .ok (.getfield 180, 3) := by decide +kernel
theorem dX4_count_231 : decode cX4_count 231 = .ok (.ireturn, 1) := by decide +kernel
theorem dX4_count_232 : decode cX4_count 232 = .ok (.bipush (-2), 2) := by decide +kernel
theorem dX4_count_234 : decode cX4_count 234 = .ok (.ireturn, 1) := by decide +kernel
set_option maxRecDepth 20000 in
theorem ggX4_bestExcuse_X4_isPupil : GoodIn wsX4_bestExcuse wsX4_isPupil := goodIn_r _ [6, 7, 8, 5, 9] (by decide +kernel) (by decide +kernel)
set_option maxRecDepth 20000 in
theorem gX4_bestExcuse_X4_isPupil : GoodIn wsX4_bestExcuse (va_wsS RX4 88 yX4_isPupil wsX4_isPupil) := goodIn_app (goodIn_of _ (by decide +kernel)) ggX4_bestExcuse_X4_isPupil
set_option maxRecDepth 20000 in
theorem ggX4_bestExcuse_X4_isWithin : GoodIn wsX4_bestExcuse wsX4_isWithin := goodIn_r _ [9] (by decide +kernel) (by decide +kernel)
set_option maxRecDepth 20000 in
theorem gX4_bestExcuse_X4_isWithin : GoodIn wsX4_bestExcuse (va_wsS RX4 49 yX4_isWithin wsX4_isWithin) := goodIn_app (goodIn_of _ (by decide +kernel)) ggX4_bestExcuse_X4_isWithin
set_option maxRecDepth 20000 in
theorem ggX4_bestExcuse_X3_reasonAgainst : GoodIn wsX4_bestExcuse wsX3_reasonAgainst := goodIn_r _ [14, 15, 16, 17, 18, 19, 20, 21, 13, 22, 23, 24, 25, 26, 27, 28, 29, 30, 31, 32, 33, 34, 35, 36, 37, 38, 39, 40, 41, 42, 5, 43, 44, 45, 46, 47, 48, 49, 50, 51, 59, 60, 61, 62, 63, 64, 65, 66, 67, 68, 69, 70, 71, 72, 73] (by decide +kernel) (by decide +kernel)
set_option maxRecDepth 20000 in
theorem gX4_bestExcuse_X3_reasonAgainst : GoodIn wsX4_bestExcuse (wsV RX4 165 RX3 yX3_reasonAgainst wsX3_reasonAgainst) := goodIn_app (goodIn_of _ (by decide +kernel)) ggX4_bestExcuse_X3_reasonAgainst
set_option maxRecDepth 20000 in
theorem ggX4_bestExcuse_X3_weightOf : GoodIn wsX4_bestExcuse wsX3_weightOf := goodIn_r _ [27, 28, 15, 29, 30, 31, 32, 13, 33, 34, 35, 36, 37, 38, 39, 40, 41, 23, 42, 5, 43, 44, 45, 46, 47, 48, 49, 50, 51, 18, 59, 60, 61, 62, 63, 64, 65, 66, 67, 68, 69, 70, 71, 72, 73] (by decide +kernel) (by decide +kernel)
set_option maxRecDepth 20000 in
theorem gX4_bestExcuse_X3_weightOf : GoodIn wsX4_bestExcuse (wsV RX4 168 RX3 yX3_weightOf wsX3_weightOf) := goodIn_app (goodIn_of _ (by decide +kernel)) ggX4_bestExcuse_X3_weightOf
theorem dX4_bestExcuse_0 : decode cX4_bestExcuse 0 = .ok (.iload_n 1, 1) := by decide +kernel
theorem dX4_bestExcuse_1 : decode cX4_bestExcuse 1 = .ok (.invokestatic 88, 3) := by decide +kernel
theorem dX4_bestExcuse_4 : decode cX4_bestExcuse 4 = .ok (.ifCond .ne 5, 3) := by decide +kernel
theorem dX4_bestExcuse_7 : decode cX4_bestExcuse 7 = .ok (.iconst (-1), 1) := by decide +kernel
theorem dX4_bestExcuse_8 : decode cX4_bestExcuse 8 = .ok (.ireturn, 1) := by decide +kernel
theorem dX4_bestExcuse_9 : decode cX4_bestExcuse 9 = .ok (.iload_n 2, 1) := by decide +kernel
theorem dX4_bestExcuse_10 : decode cX4_bestExcuse 10 = .ok (.iconst 1, 1) := by decide +kernel
theorem dX4_bestExcuse_11 : decode cX4_bestExcuse 11 = .ok (.bipush 99, 2) := by decide +kernel
theorem dX4_bestExcuse_13 : decode cX4_bestExcuse 13 = .ok (.invokestatic 49, 3) := by decide +kernel
theorem dX4_bestExcuse_16 : decode cX4_bestExcuse 16 = .ok (.ifCond .ne 6, 3) := by decide +kernel
theorem dX4_bestExcuse_19 : decode cX4_bestExcuse 19 = .ok (.bipush (-2), 2) := by decide +kernel
theorem dX4_bestExcuse_21 : decode cX4_bestExcuse 21 = .ok (.ireturn, 1) := by decide +kernel
theorem dX4_bestExcuse_22 : decode cX4_bestExcuse 22 = .ok (.bipush (-6), 2) := by decide +kernel
theorem dX4_bestExcuse_24 : decode cX4_bestExcuse 24 = .ok (.istore_n 3, 1) := by decide +kernel
theorem dX4_bestExcuse_25 : decode cX4_bestExcuse 25 = .ok (.iconst 0, 1) := by decide +kernel
theorem dX4_bestExcuse_26 : decode cX4_bestExcuse 26 = .ok (.istore 4, 2) := by decide +kernel
theorem dX4_bestExcuse_28 : decode cX4_bestExcuse 28 = .ok (.iconst 0, 1) := by decide +kernel
theorem dX4_bestExcuse_29 : decode cX4_bestExcuse 29 = .ok (.istore 5, 2) := by decide +kernel
theorem dX4_bestExcuse_31 : decode cX4_bestExcuse 31 = .ok (.iload 5, 2) := by decide +kernel
theorem dX4_bestExcuse_33 : decode cX4_bestExcuse 33 = .ok (.aload_n 0, 1) := by decide +kernel
theorem dX4_bestExcuse_34 : decode cX4_bestExcuse 34 = .ok (.getfield 10, 3) := by decide +kernel
theorem dX4_bestExcuse_37 : decode cX4_bestExcuse 37 = .ok (.getfield 66, 3) := by decide +kernel
theorem dX4_bestExcuse_40 : decode cX4_bestExcuse 40 = .ok (.if_icmp .ge 60, 3) := by decide +kernel
theorem dX4_bestExcuse_43 : decode cX4_bestExcuse 43 = .ok (.aload_n 0, 1) := by decide +kernel
theorem dX4_bestExcuse_44 : decode cX4_bestExcuse 44 = .ok (.getfield 10, 3) := by decide +kernel
theorem dX4_bestExcuse_47 : decode cX4_bestExcuse 47 = .ok (.iload_n 1, 1) := by decide +kernel
theorem dX4_bestExcuse_48 : decode cX4_bestExcuse 48 = .ok (.iload 5, 2) := by decide +kernel
theorem dX4_bestExcuse_50 : decode cX4_bestExcuse 50 = .ok (.bipush (-6), 2) := by decide +kernel
theorem dX4_bestExcuse_52 : decode cX4_bestExcuse 52 = .ok (.iload_n 2, 1) := by decide +kernel
theorem dX4_bestExcuse_53 : decode cX4_bestExcuse 53 = .ok (.invokevirtual 165, 3) := by decide +kernel
theorem dX4_bestExcuse_56 : decode cX4_bestExcuse 56 = .ok (.ifCond .ne 38, 3) := by decide +kernel
theorem dX4_bestExcuse_59 : decode cX4_bestExcuse 59 = .ok (.aload_n 0, 1) := by decide +kernel
theorem dX4_bestExcuse_60 : decode cX4_bestExcuse 60 = .ok (.getfield 10, 3) := by decide +kernel
theorem dX4_bestExcuse_63 : decode cX4_bestExcuse 63 = .ok (.iload_n 1, 1) := by decide +kernel
theorem dX4_bestExcuse_64 : decode cX4_bestExcuse 64 = .ok (.iload 5, 2) := by decide +kernel
theorem dX4_bestExcuse_66 : decode cX4_bestExcuse 66 = .ok (.bipush (-6), 2) := by decide +kernel
theorem dX4_bestExcuse_68 : decode cX4_bestExcuse 68 = .ok (.iload_n 2, 1) := by decide +kernel
theorem dX4_bestExcuse_69 : decode cX4_bestExcuse 69 = .ok (.invokevirtual 168, 3) := by decide +kernel
theorem dX4_bestExcuse_72 : decode cX4_bestExcuse 72 = .ok (.istore 6, 2) := by decide +kernel
theorem dX4_bestExcuse_74 : decode cX4_bestExcuse 74 = .ok (.iload_n 3, 1) := by decide +kernel
theorem dX4_bestExcuse_75 : decode cX4_bestExcuse 75 = .ok (.bipush (-6), 2) := by decide +kernel
theorem dX4_bestExcuse_77 : decode cX4_bestExcuse 77 = .ok (.if_icmp .eq 10, 3) := by decide +kernel
theorem dX4_bestExcuse_80 : decode cX4_bestExcuse 80 = .ok (.iload 6, 2) := by decide +kernel
theorem dX4_bestExcuse_82 : decode cX4_bestExcuse 82 = .ok (.iload 4, 2) := by decide +kernel
theorem dX4_bestExcuse_84 : decode cX4_bestExcuse 84 = .ok (.if_icmp .le 10, 3) := by decide +kernel
theorem dX4_bestExcuse_87 : decode cX4_bestExcuse 87 = .ok (.iload 5, 2) := by decide +kernel
theorem dX4_bestExcuse_89 : decode cX4_bestExcuse 89 = .ok (.istore_n 3, 1) := by decide +kernel
theorem dX4_bestExcuse_90 : decode cX4_bestExcuse 90 = .ok (.iload 6, 2) := by decide +kernel
theorem dX4_bestExcuse_92 : decode cX4_bestExcuse 92 = .ok (.istore 4, 2) := by decide +kernel
theorem dX4_bestExcuse_94 : decode cX4_bestExcuse 94 = .ok (.iinc 5 1, 3) := by decide +kernel
theorem dX4_bestExcuse_97 : decode cX4_bestExcuse 97 = .ok (.goto (-66), 3) := by decide +kernel
theorem dX4_bestExcuse_100 : decode cX4_bestExcuse 100 = .ok (.iload_n 3, 1) := by decide +kernel
theorem dX4_bestExcuse_101 : decode cX4_bestExcuse 101 = .ok (.ireturn, 1) := by decide +kernel
set_option maxRecDepth 20000 in
theorem ggX4_bestWitness_X4_isPupil : GoodIn wsX4_bestWitness wsX4_isPupil := goodIn_r _ [6, 7, 8, 5, 9] (by decide +kernel) (by decide +kernel)
set_option maxRecDepth 20000 in
theorem gX4_bestWitness_X4_isPupil : GoodIn wsX4_bestWitness (va_wsS RX4 88 yX4_isPupil wsX4_isPupil) := goodIn_app (goodIn_of _ (by decide +kernel)) ggX4_bestWitness_X4_isPupil
set_option maxRecDepth 20000 in
theorem ggX4_bestWitness_X3_hasExcuse : GoodIn wsX4_bestWitness wsX3_hasExcuse := goodIn_r _ [14, 15, 53, 54, 55, 56, 57, 58, 59, 60, 61, 62, 63, 64, 65, 66, 67] (by decide +kernel) (by decide +kernel)
set_option maxRecDepth 20000 in
theorem gX4_bestWitness_X3_hasExcuse : GoodIn wsX4_bestWitness (wsV RX4 74 RX3 yX3_hasExcuse wsX3_hasExcuse) := goodIn_app (goodIn_of _ (by decide +kernel)) ggX4_bestWitness_X3_hasExcuse
set_option maxRecDepth 20000 in
theorem ggX4_bestWitness_X4_isWithin : GoodIn wsX4_bestWitness wsX4_isWithin := goodIn_r _ [9] (by decide +kernel) (by decide +kernel)
set_option maxRecDepth 20000 in
theorem gX4_bestWitness_X4_isWithin : GoodIn wsX4_bestWitness (va_wsS RX4 49 yX4_isWithin wsX4_isWithin) := goodIn_app (goodIn_of _ (by decide +kernel)) ggX4_bestWitness_X4_isWithin
set_option maxRecDepth 20000 in
theorem ggX4_bestWitness_X3_weightOf : GoodIn wsX4_bestWitness wsX3_weightOf := goodIn_r _ [19, 20, 21, 22, 23, 24, 25, 13, 26, 27, 28, 29, 30, 31, 32, 33, 34, 35, 36, 5, 37, 38, 39, 40, 41, 42, 43, 44, 45, 46, 53, 54, 55, 56, 57, 58, 59, 60, 61, 62, 63, 64, 65, 66, 67] (by decide +kernel) (by decide +kernel)
set_option maxRecDepth 20000 in
theorem gX4_bestWitness_X3_weightOf : GoodIn wsX4_bestWitness (wsV RX4 168 RX3 yX3_weightOf wsX3_weightOf) := goodIn_app (goodIn_of _ (by decide +kernel)) ggX4_bestWitness_X3_weightOf
theorem dX4_bestWitness_0 : decode cX4_bestWitness 0 = .ok (.iload_n 1, 1) := by decide +kernel
theorem dX4_bestWitness_1 : decode cX4_bestWitness 1 = .ok (.invokestatic 88, 3) := by decide +kernel
theorem dX4_bestWitness_4 : decode cX4_bestWitness 4 = .ok (.ifCond .eq 14, 3) := by decide +kernel
theorem dX4_bestWitness_7 : decode cX4_bestWitness 7 = .ok (.aload_n 0, 1) := by decide +kernel
theorem dX4_bestWitness_8 : decode cX4_bestWitness 8 = .ok (.getfield 10, 3) := by decide +kernel
theorem dX4_bestWitness_11 : decode cX4_bestWitness 11 = .ok (.iload_n 2, 1) := by decide +kernel
theorem dX4_bestWitness_12 : decode cX4_bestWitness 12 = .ok (.invokevirtual 74, 3) := by decide +kernel
theorem dX4_bestWitness_15 : decode cX4_bestWitness 15 = .ok (.ifCond .ne 5, 3) := by decide +kernel
theorem dX4_bestWitness_18 : decode cX4_bestWitness 18 = .ok (.iconst (-1), 1) := by decide +kernel
theorem dX4_bestWitness_19 : decode cX4_bestWitness 19 = .ok (.ireturn, 1) := by decide +kernel
theorem dX4_bestWitness_20 : decode cX4_bestWitness 20 = .ok (.iload_n 3, 1) := by decide +kernel
theorem dX4_bestWitness_21 : decode cX4_bestWitness 21 = .ok (.iconst 1, 1) := by decide +kernel
theorem dX4_bestWitness_22 : decode cX4_bestWitness 22 = .ok (.bipush 99, 2) := by decide +kernel
theorem dX4_bestWitness_24 : decode cX4_bestWitness 24 = .ok (.invokestatic 49, 3) := by decide +kernel
theorem dX4_bestWitness_27 : decode cX4_bestWitness 27 = .ok (.ifCond .ne 6, 3) := by decide +kernel
theorem dX4_bestWitness_30 : decode cX4_bestWitness 30 = .ok (.bipush (-2), 2) := by decide +kernel
theorem dX4_bestWitness_32 : decode cX4_bestWitness 32 = .ok (.ireturn, 1) := by decide +kernel
theorem dX4_bestWitness_33 : decode cX4_bestWitness 33 = .ok (.bipush (-6), 2) := by decide +kernel
theorem dX4_bestWitness_35 : decode cX4_bestWitness 35 = .ok (.istore 4, 2) := by decide +kernel
theorem dX4_bestWitness_37 : decode cX4_bestWitness 37 = .ok (.iconst 0, 1) := by decide +kernel
theorem dX4_bestWitness_38 : decode cX4_bestWitness 38 = .ok (.istore 5, 2) := by decide +kernel
theorem dX4_bestWitness_40 : decode cX4_bestWitness 40 = .ok (.iconst 0, 1) := by decide +kernel
theorem dX4_bestWitness_41 : decode cX4_bestWitness 41 = .ok (.istore 6, 2) := by decide +kernel
theorem dX4_bestWitness_43 : decode cX4_bestWitness 43 = .ok (.iload 6, 2) := by decide +kernel
theorem dX4_bestWitness_45 : decode cX4_bestWitness 45 = .ok (.bipush 10, 2) := by decide +kernel
theorem dX4_bestWitness_47 : decode cX4_bestWitness 47 = .ok (.if_icmp .ge 64, 3) := by decide +kernel
theorem dX4_bestWitness_50 : decode cX4_bestWitness 50 = .ok (.iload 6, 2) := by decide +kernel
theorem dX4_bestWitness_52 : decode cX4_bestWitness 52 = .ok (.iload_n 1, 1) := by decide +kernel
theorem dX4_bestWitness_53 : decode cX4_bestWitness 53 = .ok (.if_icmp .eq 52, 3) := by decide +kernel
theorem dX4_bestWitness_56 : decode cX4_bestWitness 56 = .ok (.aload_n 0, 1) := by decide +kernel
theorem dX4_bestWitness_57 : decode cX4_bestWitness 57 = .ok (.getfield 10, 3) := by decide +kernel
theorem dX4_bestWitness_60 : decode cX4_bestWitness 60 = .ok (.getfield 141, 3) := by decide +kernel
theorem dX4_bestWitness_63 : decode cX4_bestWitness 63 = .ok (.iload 6, 2) := by decide +kernel
theorem dX4_bestWitness_65 : decode cX4_bestWitness 65 = .ok (.iaload, 1) := by decide +kernel
theorem dX4_bestWitness_66 : decode cX4_bestWitness 66 = .ok (.ifCond .le 39, 3) := by decide +kernel
theorem dX4_bestWitness_69 : decode cX4_bestWitness 69 = .ok (.aload_n 0, 1) := by decide +kernel
theorem dX4_bestWitness_70 : decode cX4_bestWitness 70 = .ok (.getfield 10, 3) := by decide +kernel
theorem dX4_bestWitness_73 : decode cX4_bestWitness 73 = .ok (.iload_n 1, 1) := by decide +kernel
theorem dX4_bestWitness_74 : decode cX4_bestWitness 74 = .ok (.iload_n 2, 1) := by decide +kernel
theorem dX4_bestWitness_75 : decode cX4_bestWitness 75 = .ok (.iload 6, 2) := by decide +kernel
theorem dX4_bestWitness_77 : decode cX4_bestWitness 77 = .ok (.iload_n 3, 1) := by decide +kernel
theorem dX4_bestWitness_78 : decode cX4_bestWitness 78 = .ok (.invokevirtual 168, 3) := by decide +kernel
theorem dX4_bestWitness_81 : decode cX4_bestWitness 81 = .ok (.istore 7, 2) := by decide +kernel
theorem dX4_bestWitness_83 : decode cX4_bestWitness 83 = .ok (.iload 4, 2) := by decide +kernel
theorem dX4_bestWitness_85 : decode cX4_bestWitness 85 = .ok (.bipush (-6), 2) := by decide +kernel
theorem dX4_bestWitness_87 : decode cX4_bestWitness 87 = .ok (.if_icmp .eq 10, 3) := by decide +kernel
theorem dX4_bestWitness_90 : decode cX4_bestWitness 90 = .ok (.iload 7, 2) := by decide +kernel
theorem dX4_bestWitness_92 : decode cX4_bestWitness 92 = .ok (.iload 5, 2) := by decide +kernel
theorem dX4_bestWitness_94 : decode cX4_bestWitness 94 = .ok (.if_icmp .le 11, 3) := by decide +kernel
theorem dX4_bestWitness_97 : decode cX4_bestWitness 97 = .ok (.iload 6, 2) := by decide +kernel
theorem dX4_bestWitness_99 : decode cX4_bestWitness 99 = .ok (.istore 4, 2) := by decide +kernel
theorem dX4_bestWitness_101 : decode cX4_bestWitness 101 = .ok (.iload 7, 2) := by decide +kernel
theorem dX4_bestWitness_103 : decode cX4_bestWitness 103 = .ok (.istore 5, 2) := by decide +kernel
theorem dX4_bestWitness_105 : decode cX4_bestWitness 105 = .ok (.iinc 6 1, 3) := by decide +kernel
theorem dX4_bestWitness_108 : decode cX4_bestWitness 108 = .ok (.goto (-65), 3) := by decide +kernel
theorem dX4_bestWitness_111 : decode cX4_bestWitness 111 = .ok (.iload 4, 2) := by decide +kernel
theorem dX4_bestWitness_113 : decode cX4_bestWitness 113 = .ok (.ireturn, 1) := by decide +kernel
set_option maxRecDepth 20000 in
theorem ggX4_mostMinutes_X4_isPupil : GoodIn wsX4_mostMinutes wsX4_isPupil := goodIn_r _ [5, 6, 7, 4, 8] (by decide +kernel) (by decide +kernel)
set_option maxRecDepth 20000 in
theorem gX4_mostMinutes_X4_isPupil : GoodIn wsX4_mostMinutes (va_wsS RX4 88 yX4_isPupil wsX4_isPupil) := goodIn_app (goodIn_of _ (by decide +kernel)) ggX4_mostMinutes_X4_isPupil
set_option maxRecDepth 20000 in
theorem ggX4_mostMinutes_X3_hasExcuse : GoodIn wsX4_mostMinutes wsX3_hasExcuse := goodIn_r _ [13, 14, 62, 63, 64, 65, 66, 67, 68, 69, 70, 71, 72, 73, 74, 75, 76] (by decide +kernel) (by decide +kernel)
set_option maxRecDepth 20000 in
theorem gX4_mostMinutes_X3_hasExcuse : GoodIn wsX4_mostMinutes (wsV RX4 74 RX3 yX3_hasExcuse wsX3_hasExcuse) := goodIn_app (goodIn_of _ (by decide +kernel)) ggX4_mostMinutes_X3_hasExcuse
set_option maxRecDepth 20000 in
theorem ggX4_mostMinutes_X3_reasonAgainst : GoodIn wsX4_mostMinutes wsX3_reasonAgainst := goodIn_r _ [18, 19, 20, 21, 22, 23, 24, 25, 12, 26, 27, 28, 29, 30, 31, 32, 33, 34, 35, 36, 37, 38, 39, 40, 41, 42, 43, 44, 45, 46, 4, 47, 48, 49, 50, 51, 52, 53, 54, 55, 62, 63, 64, 65, 66, 67, 68, 69, 70, 71, 72, 73, 74, 75, 76] (by decide +kernel) (by decide +kernel)
set_option maxRecDepth 20000 in
theorem gX4_mostMinutes_X3_reasonAgainst : GoodIn wsX4_mostMinutes (wsV RX4 165 RX3 yX3_reasonAgainst wsX3_reasonAgainst) := goodIn_app (goodIn_of _ (by decide +kernel)) ggX4_mostMinutes_X3_reasonAgainst
theorem dX4_mostMinutes_0 : decode cX4_mostMinutes 0 = .ok (.iload_n 1, 1) := by decide +kernel
theorem dX4_mostMinutes_1 : decode cX4_mostMinutes 1 = .ok (.invokestatic 88, 3) := by decide +kernel
theorem dX4_mostMinutes_4 : decode cX4_mostMinutes 4 = .ok (.ifCond .eq 14, 3) := by decide +kernel
theorem dX4_mostMinutes_7 : decode cX4_mostMinutes 7 = .ok (.aload_n 0, 1) := by decide +kernel
theorem dX4_mostMinutes_8 : decode cX4_mostMinutes 8 = .ok (.getfield 10, 3) := by decide +kernel
theorem dX4_mostMinutes_11 : decode cX4_mostMinutes 11 = .ok (.iload_n 2, 1) := by decide +kernel
theorem dX4_mostMinutes_12 : decode cX4_mostMinutes 12 = .ok (.invokevirtual 74, 3) := by decide +kernel
theorem dX4_mostMinutes_15 : decode cX4_mostMinutes 15 = .ok (.ifCond .ne 5, 3) := by decide +kernel
theorem dX4_mostMinutes_18 : decode cX4_mostMinutes 18 = .ok (.iconst (-1), 1) := by decide +kernel
theorem dX4_mostMinutes_19 : decode cX4_mostMinutes 19 = .ok (.ireturn, 1) := by decide +kernel
theorem dX4_mostMinutes_20 : decode cX4_mostMinutes 20 = .ok (.bipush 99, 2) := by decide +kernel
theorem dX4_mostMinutes_22 : decode cX4_mostMinutes 22 = .ok (.istore_n 3, 1) := by decide +kernel
theorem dX4_mostMinutes_23 : decode cX4_mostMinutes 23 = .ok (.iload_n 3, 1) := by decide +kernel
theorem dX4_mostMinutes_24 : decode cX4_mostMinutes 24 = .ok (.iconst 1, 1) := by decide +kernel
theorem dX4_mostMinutes_25 : decode cX4_mostMinutes 25 = .ok (.if_icmp .lt 26, 3) := by decide +kernel
theorem dX4_mostMinutes_28 : decode cX4_mostMinutes 28 = .ok (.aload_n 0, 1) := by decide +kernel
theorem dX4_mostMinutes_29 : decode cX4_mostMinutes 29 = .ok (.getfield 10, 3) := by decide +kernel
theorem dX4_mostMinutes_32 : decode cX4_mostMinutes 32 = .ok (.iload_n 1, 1) := by decide +kernel
theorem dX4_mostMinutes_33 : decode cX4_mostMinutes 33 = .ok (.iload_n 2, 1) := by decide +kernel
theorem dX4_mostMinutes_34 : decode cX4_mostMinutes 34 = .ok (.bipush (-6), 2) := by decide +kernel
theorem dX4_mostMinutes_36 : decode cX4_mostMinutes 36 = .ok (.iload_n 3, 1) := by decide +kernel
theorem dX4_mostMinutes_37 : decode cX4_mostMinutes 37 = .ok (.invokevirtual 165, 3) := by decide +kernel
theorem dX4_mostMinutes_40 : decode cX4_mostMinutes 40 = .ok (.ifCond .ne 5, 3) := by decide +kernel
theorem dX4_mostMinutes_43 : decode cX4_mostMinutes 43 = .ok (.iload_n 3, 1) := by decide +kernel
theorem dX4_mostMinutes_44 : decode cX4_mostMinutes 44 = .ok (.ireturn, 1) := by decide +kernel
theorem dX4_mostMinutes_45 : decode cX4_mostMinutes 45 = .ok (.iinc 3 (-1), 3) := by decide +kernel
theorem dX4_mostMinutes_48 : decode cX4_mostMinutes 48 = .ok (.goto (-25), 3) := by decide +kernel
theorem dX4_mostMinutes_51 : decode cX4_mostMinutes 51 = .ok (.bipush (-6), 2) := by decide +kernel
theorem dX4_mostMinutes_53 : decode cX4_mostMinutes 53 = .ok (.ireturn, 1) := by decide +kernel
theorem dX4_wipe_0 : decode cX4_wipe 0 = .ok (.aload_n 0, 1) := by decide +kernel
theorem dX4_wipe_1 : decode cX4_wipe 1 = .ok (.getfield 34, 3) := by decide +kernel
theorem dX4_wipe_4 : decode cX4_wipe 4 = .ok (.getfield 114, 3) := by decide +kernel
theorem dX4_wipe_7 : decode cX4_wipe 7 = .ok (.istore_n 1, 1) := by decide +kernel
theorem dX4_wipe_8 : decode cX4_wipe 8 = .ok (.aload_n 0, 1) := by decide +kernel
theorem dX4_wipe_9 : decode cX4_wipe 9 = .ok (.getfield 34, 3) := by decide +kernel
theorem dX4_wipe_12 : decode cX4_wipe 12 = .ok (.iconst 0, 1) := by decide +kernel
theorem dX4_wipe_13 : decode cX4_wipe 13 = .ok (.putfield 114, 3) := by decide +kernel
theorem dX4_wipe_16 : decode cX4_wipe 16 = .ok (.iload_n 1, 1) := by decide +kernel
theorem dX4_wipe_17 : decode cX4_wipe 17 = .ok (.ireturn, 1) := by decide +kernel
set_option maxRecDepth 20000 in
theorem ggX4_fault_X2_begin : GoodIn wsX4_fault wsX2_begin := goodIn_r _ [9, 10, 11, 65, 66, 67, 68, 69] (by decide +kernel) (by decide +kernel)
set_option maxRecDepth 20000 in
theorem gX4_fault_X2_begin : GoodIn wsX4_fault (wsV RX4 111 RX2 yX2_begin wsX2_begin) := goodIn_app (goodIn_of _ (by decide +kernel)) ggX4_fault_X2_begin
set_option maxRecDepth 20000 in
theorem ggX4_fault_X2_takes : GoodIn wsX4_fault wsX2_takes := goodIn_r _ [15, 10, 16, 17, 18, 19, 8, 20, 21, 22, 23, 24, 25, 26, 27, 28, 29, 30, 31, 32, 33, 34, 35, 36, 37, 38, 39, 40, 41, 42, 43, 44, 45, 46, 47, 48, 11, 49, 50, 51, 52, 65, 66, 67, 68, 69] (by decide +kernel) (by decide +kernel)
set_option maxRecDepth 20000 in
theorem gX4_fault_X2_takes : GoodIn wsX4_fault (wsV RX4 124 RX2 yX2_takes wsX2_takes) := goodIn_app (goodIn_of _ (by decide +kernel)) ggX4_fault_X2_takes
set_option maxRecDepth 20000 in
theorem ggX4_fault_X2_canEnd : GoodIn wsX4_fault wsX2_canEnd := goodIn_r _ [56, 10, 65, 66, 67, 68, 69] (by decide +kernel) (by decide +kernel)
set_option maxRecDepth 20000 in
theorem gX4_fault_X2_canEnd : GoodIn wsX4_fault (wsV RX4 195 RX2 yX2_canEnd wsX2_canEnd) := goodIn_app (goodIn_of _ (by decide +kernel)) ggX4_fault_X2_canEnd
theorem dX4_fault_0 : decode cX4_fault 0 = .ok (.aload_n 0, 1) := by decide +kernel
theorem dX4_fault_1 : decode cX4_fault 1 = .ok (.getfield 41, 3) := by decide +kernel
theorem dX4_fault_4 : decode cX4_fault 4 = .ok (.invokevirtual 111, 3) := by decide +kernel
theorem dX4_fault_7 : decode cX4_fault 7 = .ok (.iconst 0, 1) := by decide +kernel
theorem dX4_fault_8 : decode cX4_fault 8 = .ok (.istore_n 1, 1) := by decide +kernel
theorem dX4_fault_9 : decode cX4_fault 9 = .ok (.iload_n 1, 1) := by decide +kernel
theorem dX4_fault_10 : decode cX4_fault 10 = .ok (.aload_n 0, 1) := by decide +kernel
theorem dX4_fault_11 : decode cX4_fault 11 = .ok (.getfield 34, 3) := by decide +kernel
theorem dX4_fault_14 : decode cX4_fault 14 = .ok (.getfield 114, 3) := by decide +kernel
theorem dX4_fault_17 : decode cX4_fault 17 = .ok (.if_icmp .ge 30, 3) := by decide +kernel
theorem dX4_fault_20 : decode cX4_fault 20 = .ok (.aload_n 0, 1) := by decide +kernel
theorem dX4_fault_21 : decode cX4_fault 21 = .ok (.getfield 41, 3) := by decide +kernel
theorem dX4_fault_24 : decode cX4_fault 24 = .ok (.aload_n 0, 1) := by decide +kernel
theorem dX4_fault_25 : decode cX4_fault 25 = .ok (.getfield 34, 3) := by decide +kernel
theorem dX4_fault_28 : decode cX4_fault 28 = .ok (.getfield 117, 3) := by decide +kernel
theorem dX4_fault_31 : decode cX4_fault 31 = .ok (.iload_n 1, 1) := by decide +kernel
theorem dX4_fault_32 : decode cX4_fault 32 = .ok (.caload, 1) := by decide +kernel
theorem dX4_fault_33 : decode cX4_fault 33 = .ok (.invokevirtual 124, 3) := by decide +kernel
theorem dX4_fault_36 : decode cX4_fault 36 = .ok (.ifCond .ne 5, 3) := by decide +kernel
theorem dX4_fault_39 : decode cX4_fault 39 = .ok (.iload_n 1, 1) := by decide +kernel
theorem dX4_fault_40 : decode cX4_fault 40 = .ok (.ireturn, 1) := by decide +kernel
theorem dX4_fault_41 : decode cX4_fault 41 = .ok (.iinc 1 1, 3) := by decide +kernel
theorem dX4_fault_44 : decode cX4_fault 44 = .ok (.goto (-35), 3) := by decide +kernel
theorem dX4_fault_47 : decode cX4_fault 47 = .ok (.aload_n 0, 1) := by decide +kernel
theorem dX4_fault_48 : decode cX4_fault 48 = .ok (.getfield 41, 3) := by decide +kernel
theorem dX4_fault_51 : decode cX4_fault 51 = .ok (.invokevirtual 195, 3) := by decide +kernel
theorem dX4_fault_54 : decode cX4_fault 54 = .ok (.ifCond .eq 8, 3) := by decide +kernel
theorem dX4_fault_57 : decode cX4_fault 57 = .ok (.bipush (-6), 2) := by decide +kernel
theorem dX4_fault_59 : decode cX4_fault 59 = .ok (.goto 10, 3) := by decide +kernel
theorem dX4_fault_62 : decode cX4_fault 62 = .ok (.aload_n 0, 1) := by decide +kernel
theorem dX4_fault_63 : decode cX4_fault 63 = .ok (.getfield 34, 3) := by decide +kernel
theorem dX4_fault_66 : decode cX4_fault 66 = .ok (.getfield 114, 3) := by decide +kernel
theorem dX4_fault_69 : decode cX4_fault 69 = .ok (.ireturn, 1) := by decide +kernel
set_option maxRecDepth 20000 in
theorem ggX4_undo_X0_takeBack : GoodIn wsX4_undo wsX0_takeBack := goodIn_r _ [8, 9, 10, 11, 12, 13, 14, 15, 16, 17, 18, 19, 20, 21, 22, 23, 24, 25, 26, 27, 28, 29, 30, 31, 32, 33, 34, 35, 36, 37, 38, 39, 40, 41, 42, 49, 50, 51, 52, 53, 54, 55, 56, 57, 58, 59, 60, 61, 62, 63, 64, 65, 66] (by decide +kernel) (by decide +kernel)
set_option maxRecDepth 20000 in
theorem gX4_undo_X0_takeBack : GoodIn wsX4_undo (wsV RX4 199 RX0 yX0_takeBack wsX0_takeBack) := goodIn_app (goodIn_of _ (by decide +kernel)) ggX4_undo_X0_takeBack
theorem dX4_undo_0 : decode cX4_undo 0 = .ok (.aload_n 0, 1) := by decide +kernel
theorem dX4_undo_1 : decode cX4_undo 1 = .ok (.getfield 19, 3) := by decide +kernel
theorem dX4_undo_4 : decode cX4_undo 4 = .ok (.getfield 180, 3) := by decide +kernel
theorem dX4_undo_7 : decode cX4_undo 7 = .ok (.ifCond .ne 6, 3) := by decide +kernel
theorem dX4_undo_10 : decode cX4_undo 10 = .ok (.bipush (-5), 2) := by decide +kernel
theorem dX4_undo_12 : decode cX4_undo 12 = .ok (.ireturn, 1) := by decide +kernel
theorem dX4_undo_13 : decode cX4_undo 13 = .ok (.aload_n 0, 1) := by decide +kernel
theorem dX4_undo_14 : decode cX4_undo 14 = .ok (.getfield 19, 3) := by decide +kernel
theorem dX4_undo_17 : decode cX4_undo 17 = .ok (.aload_n 0, 1) := by decide +kernel
theorem dX4_undo_18 : decode cX4_undo 18 = .ok (.getfield 10, 3) := by decide +kernel
theorem dX4_undo_21 : decode cX4_undo 21 = .ok (.invokevirtual 199, 3) := by decide +kernel
theorem dX4_undo_24 : decode cX4_undo 24 = .ok (.aload_n 0, 1) := by decide +kernel
theorem dX4_undo_25 : decode cX4_undo 25 = .ok (.getfield 19, 3) := by decide +kernel
theorem dX4_undo_28 : decode cX4_undo 28 = .ok (.getfield 180, 3) := by decide +kernel
theorem dX4_undo_31 : decode cX4_undo 31 = .ok (.ireturn, 1) := by decide +kernel
set_option maxRecDepth 20000 in
theorem ggX4_save_X4_isWithin : GoodIn wsX4_save wsX4_isWithin := goodIn_r _ [8] (by decide +kernel) (by decide +kernel)
set_option maxRecDepth 20000 in
theorem gX4_save_X4_isWithin : GoodIn wsX4_save (va_wsS RX4 49 yX4_isWithin wsX4_isWithin) := goodIn_app (goodIn_of _ (by decide +kernel)) ggX4_save_X4_isWithin
set_option maxRecDepth 20000 in
theorem ggX4_save_X3_become : GoodIn wsX4_save wsX3_become := goodIn_r _ [13, 14, 15, 16, 17, 18, 19, 20, 21, 22, 23, 24, 25, 26, 27, 28, 29, 7, 30, 31, 32, 33, 34, 35, 36, 37, 38, 45, 46, 47, 48, 49, 50, 51, 52, 53, 54, 55, 56, 57, 58, 59] (by decide +kernel) (by decide +kernel)
set_option maxRecDepth 20000 in
theorem gX4_save_X3_become : GoodIn wsX4_save (wsV RX4 202 RX3 yX3_become wsX3_become) := goodIn_app (goodIn_of _ (by decide +kernel)) ggX4_save_X3_become
theorem dX4_save_0 : decode cX4_save 0 = .ok (.iload_n 1, 1) := by decide +kernel
theorem dX4_save_1 : decode cX4_save 1 = .ok (.iconst 0, 1) := by decide +kernel
theorem dX4_save_2 : decode cX4_save 2 = .ok (.iconst 1, 1) := by decide +kernel
theorem dX4_save_3 : decode cX4_save 3 = .ok (.invokestatic 49, 3) := by decide +kernel
theorem dX4_save_6 : decode cX4_save 6 = .ok (.ifCond .ne 6, 3) := by decide +kernel
theorem dX4_save_9 : decode cX4_save 9 = .ok (.bipush (-2), 2) := by decide +kernel
theorem dX4_save_11 : decode cX4_save 11 = .ok (.ireturn, 1) := by decide +kernel
theorem dX4_save_12 : decode cX4_save 12 = .ok (.aload_n 0, 1) := by decide +kernel
theorem dX4_save_13 : decode cX4_save 13 = .ok (.getfield 23, 3) := by decide +kernel
theorem dX4_save_16 : decode cX4_save 16 = .ok (.iload_n 1, 1) := by decide +kernel
theorem dX4_save_17 : decode cX4_save 17 = .ok (.aaload, 1) := by decide +kernel
theorem dX4_save_18 : decode cX4_save 18 = .ok (.aload_n 0, 1) := by decide +kernel
theorem dX4_save_19 : decode cX4_save 19 = .ok (.getfield 10, 3) := by decide +kernel
theorem dX4_save_22 : decode cX4_save 22 = .ok (.invokevirtual 202, 3) := by decide +kernel
theorem dX4_save_25 : decode cX4_save 25 = .ok (.aload_n 0, 1) := by decide +kernel
theorem dX4_save_26 : decode cX4_save 26 = .ok (.getfield 27, 3) := by decide +kernel
theorem dX4_save_29 : decode cX4_save 29 = .ok (.iload_n 1, 1) := by decide +kernel
theorem dX4_save_30 : decode cX4_save 30 = .ok (.iconst 1, 1) := by decide +kernel
theorem dX4_save_31 : decode cX4_save 31 = .ok (.bastore, 1) := by decide +kernel
theorem dX4_save_32 : decode cX4_save 32 = .ok (.aload_n 0, 1) := by decide +kernel
theorem dX4_save_33 : decode cX4_save 33 = .ok (.getfield 10, 3) := by decide +kernel
theorem dX4_save_36 : decode cX4_save 36 = .ok (.getfield 174, 3) := by decide +kernel
theorem dX4_save_39 : decode cX4_save 39 = .ok (.ireturn, 1) := by decide +kernel
set_option maxRecDepth 20000 in
theorem ggX4_restore_X4_isWithin : GoodIn wsX4_restore wsX4_isWithin := goodIn_r _ [9] (by decide +kernel) (by decide +kernel)
set_option maxRecDepth 20000 in
theorem gX4_restore_X4_isWithin : GoodIn wsX4_restore (va_wsS RX4 49 yX4_isWithin wsX4_isWithin) := goodIn_app (goodIn_of _ (by decide +kernel)) ggX4_restore_X4_isWithin
set_option maxRecDepth 20000 in
theorem ggX4_restore_X0_keep : GoodIn wsX4_restore wsX0_keep := goodIn_r _ [14, 15, 16, 17, 18, 19, 20, 21, 22, 23, 24, 25, 26, 27, 28, 29, 30, 31, 32, 33, 34, 35, 36, 37, 38, 39, 40, 41, 42, 8, 43, 44, 45, 46, 47, 48, 71, 72, 73, 56, 57, 58, 59, 60, 61, 62, 63, 64, 65, 66, 67, 68, 69, 70] (by decide +kernel) (by decide +kernel)
set_option maxRecDepth 20000 in
theorem gX4_restore_X0_keep : GoodIn wsX4_restore (wsV RX4 59 RX0 yX0_keep wsX0_keep) := goodIn_app (goodIn_of _ (by decide +kernel)) ggX4_restore_X0_keep
set_option maxRecDepth 20000 in
theorem ggX4_restore_X3_become : GoodIn wsX4_restore wsX3_become := goodIn_r _ [26, 27, 28, 29, 30, 31, 32, 33, 34, 35, 36, 37, 38, 39, 40, 41, 42, 8, 43, 44, 19, 20, 21, 45, 46, 47, 48, 56, 57, 58, 59, 60, 61, 62, 63, 64, 65, 66, 67, 68, 69, 70] (by decide +kernel) (by decide +kernel)
set_option maxRecDepth 20000 in
theorem gX4_restore_X3_become : GoodIn wsX4_restore (wsV RX4 202 RX3 yX3_become wsX3_become) := goodIn_app (goodIn_of _ (by decide +kernel)) ggX4_restore_X3_become
theorem dX4_restore_0 : decode cX4_restore 0 = .ok (.iload_n 1, 1) := by decide +kernel
theorem dX4_restore_1 : decode cX4_restore 1 = .ok (.iconst 0, 1) := by decide +kernel
theorem dX4_restore_2 : decode cX4_restore 2 = .ok (.iconst 1, 1) := by decide +kernel
theorem dX4_restore_3 : decode cX4_restore 3 = .ok (.invokestatic 49, 3) := by decide +kernel
theorem dX4_restore_6 : decode cX4_restore 6 = .ok (.ifCond .ne 6, 3) := by decide +kernel
theorem dX4_restore_9 : decode cX4_restore 9 = .ok (.bipush (-2), 2) := by decide +kernel
theorem dX4_restore_11 : decode cX4_restore 11 = .ok (.ireturn, 1) := by decide +kernel
theorem dX4_restore_12 : decode cX4_restore 12 = .ok (.aload_n 0, 1) := by decide +kernel
theorem dX4_restore_13 : decode cX4_restore 13 = .ok (.getfield 27, 3) := by decide +kernel
theorem dX4_restore_16 : decode cX4_restore 16 = .ok (.iload_n 1, 1) := by decide +kernel
theorem dX4_restore_17 : decode cX4_restore 17 = .ok (.baload, 1) := by decide +kernel
theorem dX4_restore_18 : decode cX4_restore 18 = .ok (.ifCond .ne 6, 3) := by decide +kernel
theorem dX4_restore_21 : decode cX4_restore 21 = .ok (.bipush (-5), 2) := by decide +kernel
theorem dX4_restore_23 : decode cX4_restore 23 = .ok (.ireturn, 1) := by decide +kernel
theorem dX4_restore_24 : decode cX4_restore 24 = .ok (.aload_n 0, 1) := by decide +kernel
theorem dX4_restore_25 : decode cX4_restore 25 = .ok (.getfield 19, 3) := by decide +kernel
theorem dX4_restore_28 : decode cX4_restore 28 = .ok (.aload_n 0, 1) := by decide +kernel
theorem dX4_restore_29 : decode cX4_restore 29 = .ok (.getfield 10, 3) := by decide +kernel
theorem dX4_restore_32 : decode cX4_restore 32 = .ok (.invokevirtual 59, 3) := by decide +kernel
theorem dX4_restore_35 : decode cX4_restore 35 = .ok (.aload_n 0, 1) := by decide +kernel
theorem dX4_restore_36 : decode cX4_restore 36 = .ok (.getfield 10, 3) := by decide +kernel
theorem dX4_restore_39 : decode cX4_restore 39 = .ok (.aload_n 0, 1) := by decide +kernel
theorem dX4_restore_40 : decode cX4_restore 40 = .ok (.getfield 23, 3) := by decide +kernel
theorem dX4_restore_43 : decode cX4_restore 43 = .ok (.iload_n 1, 1) := by decide +kernel
theorem dX4_restore_44 : decode cX4_restore 44 = .ok (.aaload, 1) := by decide +kernel
theorem dX4_restore_45 : decode cX4_restore 45 = .ok (.invokevirtual 202, 3) := by decide +kernel
theorem dX4_restore_48 : decode cX4_restore 48 = .ok (.aload_n 0, 1) := by decide +kernel
theorem dX4_restore_49 : decode cX4_restore 49 = .ok (.getfield 10, 3) := by decide +kernel
theorem dX4_restore_52 : decode cX4_restore 52 = .ok (.getfield 174, 3) := by decide +kernel
theorem dX4_restore_55 : decode cX4_restore 55 = .ok (.ireturn, 1) := by decide +kernel
set_option maxRecDepth 20000 in
theorem ggX4_offerError_X4_isPupil : GoodIn wsX4_offerError wsX4_isPupil := goodIn_r _ [5, 6, 7, 4, 8] (by decide +kernel) (by decide +kernel)
set_option maxRecDepth 20000 in
theorem gX4_offerError_X4_isPupil : GoodIn wsX4_offerError (va_wsS RX4 88 yX4_isPupil wsX4_isPupil) := goodIn_app (goodIn_of _ (by decide +kernel)) ggX4_offerError_X4_isPupil
set_option maxRecDepth 20000 in
theorem ggX4_offerError_X3_hasExcuse : GoodIn wsX4_offerError wsX3_hasExcuse := goodIn_r _ [13, 14, 21, 22, 23, 24, 25, 26, 27, 28, 29, 30, 31, 32, 33, 34, 35] (by decide +kernel) (by decide +kernel)
set_option maxRecDepth 20000 in
theorem gX4_offerError_X3_hasExcuse : GoodIn wsX4_offerError (wsV RX4 74 RX3 yX3_hasExcuse wsX3_hasExcuse) := goodIn_app (goodIn_of _ (by decide +kernel)) ggX4_offerError_X3_hasExcuse
set_option maxRecDepth 20000 in
theorem ggX4_offerError_X4_isWithin : GoodIn wsX4_offerError wsX4_isWithin := goodIn_r _ [8] (by decide +kernel) (by decide +kernel)
set_option maxRecDepth 20000 in
theorem gX4_offerError_X4_isWithin : GoodIn wsX4_offerError (va_wsS RX4 49 yX4_isWithin wsX4_isWithin) := goodIn_app (goodIn_of _ (by decide +kernel)) ggX4_offerError_X4_isWithin
theorem dX4_offerError_0 : decode cX4_offerError 0 = .ok (.iload_n 1, 1) := by decide +kernel
theorem dX4_offerError_1 : decode cX4_offerError 1 = .ok (.invokestatic 88, 3) := by decide +kernel
theorem dX4_offerError_4 : decode cX4_offerError 4 = .ok (.ifCond .eq 14, 3) := by decide +kernel
theorem dX4_offerError_7 : decode cX4_offerError 7 = .ok (.aload_n 0, 1) := by decide +kernel
theorem dX4_offerError_8 : decode cX4_offerError 8 = .ok (.getfield 10, 3) := by decide +kernel
theorem dX4_offerError_11 : decode cX4_offerError 11 = .ok (.iload_n 2, 1) := by decide +kernel
theorem dX4_offerError_12 : decode cX4_offerError 12 = .ok (.invokevirtual 74, 3) := by decide +kernel
theorem dX4_offerError_15 : decode cX4_offerError 15 = .ok (.ifCond .ne 5, 3) := by decide +kernel
theorem dX4_offerError_18 : decode cX4_offerError 18 = .ok (.iconst (-1), 1) := by decide +kernel
theorem dX4_offerError_19 : decode cX4_offerError 19 = .ok (.ireturn, 1) := by decide +kernel
theorem dX4_offerError_20 : decode cX4_offerError 20 = .ok (.iload_n 3, 1) := by decide +kernel
theorem dX4_offerError_21 : decode cX4_offerError 21 = .ok (.bipush (-6), 2) := by decide +kernel
theorem dX4_offerError_23 : decode cX4_offerError 23 = .ok (.if_icmp .eq 12, 3) := by decide +kernel
theorem dX4_offerError_26 : decode cX4_offerError 26 = .ok (.iload_n 3, 1) := by decide +kernel
theorem dX4_offerError_27 : decode cX4_offerError 27 = .ok (.invokestatic 88, 3) := by decide +kernel
theorem dX4_offerError_30 : decode cX4_offerError 30 = .ok (.ifCond .ne 5, 3) := by decide +kernel
theorem dX4_offerError_33 : decode cX4_offerError 33 = .ok (.iconst (-1), 1) := by decide +kernel
theorem dX4_offerError_34 : decode cX4_offerError 34 = .ok (.ireturn, 1) := by decide +kernel
theorem dX4_offerError_35 : decode cX4_offerError 35 = .ok (.iload 4, 2) := by decide +kernel
theorem dX4_offerError_37 : decode cX4_offerError 37 = .ok (.iconst 1, 1) := by decide +kernel
theorem dX4_offerError_38 : decode cX4_offerError 38 = .ok (.bipush 99, 2) := by decide +kernel
theorem dX4_offerError_40 : decode cX4_offerError 40 = .ok (.invokestatic 49, 3) := by decide +kernel
theorem dX4_offerError_43 : decode cX4_offerError 43 = .ok (.ifCond .eq 8, 3) := by decide +kernel
theorem dX4_offerError_46 : decode cX4_offerError 46 = .ok (.iload_n 3, 1) := by decide +kernel
theorem dX4_offerError_47 : decode cX4_offerError 47 = .ok (.iload_n 1, 1) := by decide +kernel
theorem dX4_offerError_48 : decode cX4_offerError 48 = .ok (.if_icmp .ne 6, 3) := by decide +kernel
theorem dX4_offerError_51 : decode cX4_offerError 51 = .ok (.bipush (-2), 2) := by decide +kernel
theorem dX4_offerError_53 : decode cX4_offerError 53 = .ok (.ireturn, 1) := by decide +kernel
theorem dX4_offerError_54 : decode cX4_offerError 54 = .ok (.iconst 0, 1) := by decide +kernel
theorem dX4_offerError_55 : decode cX4_offerError 55 = .ok (.ireturn, 1) := by decide +kernel
set_option maxRecDepth 20000 in
theorem ggX4_stampsForWhatWasRead_X3_hasExcuse : GoodIn wsX4_stampsForWhatWasRead wsX3_hasExcuse := goodIn_r _ [11, 12, 94, 95, 96, 97, 98, 99, 100, 101, 102, 103, 104, 105, 106, 107, 108] (by decide +kernel) (by decide +kernel)
set_option maxRecDepth 20000 in
theorem gX4_stampsForWhatWasRead_X3_hasExcuse : GoodIn wsX4_stampsForWhatWasRead (wsV RX4 74 RX3 yX3_hasExcuse wsX3_hasExcuse) := goodIn_app (goodIn_of _ (by decide +kernel)) ggX4_stampsForWhatWasRead_X3_hasExcuse
set_option maxRecDepth 20000 in
theorem ggX4_stampsForWhatWasRead_X3_takeOffer : GoodIn wsX4_stampsForWhatWasRead wsX3_takeOffer := goodIn_r _ [16, 17, 18, 19, 20, 21, 10, 22, 23, 24, 25, 26, 27, 28, 29, 30, 31, 32, 33, 34, 35, 36, 37, 38, 39, 40, 41, 42, 43, 44, 45, 46, 47, 48, 49, 50, 51, 52, 53, 54, 55, 56, 57, 58, 59, 60, 61, 62, 63, 64, 65, 66, 67, 68, 69, 70, 71, 72, 73, 74, 75, 76, 77, 78, 79, 80, 81, 82, 94, 95, 96, 97, 98, 99, 100, 101, 102, 103, 104, 105, 106, 107, 108] (by decide +kernel) (by decide +kernel)
set_option maxRecDepth 20000 in
theorem gX4_stampsForWhatWasRead_X3_takeOffer : GoodIn wsX4_stampsForWhatWasRead (wsV RX4 85 RX3 yX3_takeOffer wsX3_takeOffer) := goodIn_app (goodIn_of _ (by decide +kernel)) ggX4_stampsForWhatWasRead_X3_takeOffer
theorem dX4_stampsForWhatWasRead_0 : decode cX4_stampsForWhatWasRead 0 = .ok (.aload_n 0, 1) := by decide +kernel
theorem dX4_stampsForWhatWasRead_1 : decode cX4_stampsForWhatWasRead 1 = .ok (.getfield 10, 3) := by decide +kernel
theorem dX4_stampsForWhatWasRead_4 : decode cX4_stampsForWhatWasRead 4 = .ok (.aload_n 0, 1) := by decide +kernel
theorem dX4_stampsForWhatWasRead_5 : decode cX4_stampsForWhatWasRead 5 = .ok (.getfield 41, 3) := by decide +kernel
theorem dX4_stampsForWhatWasRead_8 : decode cX4_stampsForWhatWasRead 8 = .ok (.getfield 205, 3) := by decide +kernel
theorem dX4_stampsForWhatWasRead_11 : decode cX4_stampsForWhatWasRead 11 = .ok (.invokevirtual 74, 3) := by decide +kernel
theorem dX4_stampsForWhatWasRead_14 : decode cX4_stampsForWhatWasRead 14 = .ok (.ifCond .ne 5, 3) := by decide +kernel
theorem dX4_stampsForWhatWasRead_17 : decode cX4_stampsForWhatWasRead 17 = .ok (.iconst 0, 1) := by decide +kernel
theorem dX4_stampsForWhatWasRead_18 : decode cX4_stampsForWhatWasRead 18 = .ok (.ireturn, 1) := by decide +kernel
theorem dX4_stampsForWhatWasRead_19 : decode cX4_stampsForWhatWasRead 19 = .ok (.aload_n 0, 1) := by decide +kernel
theorem dX4_stampsForWhatWasRead_20 : decode cX4_stampsForWhatWasRead 20 = .ok (.getfield 10, 3) := by decide +kernel
theorem dX4_stampsForWhatWasRead_23 : decode cX4_stampsForWhatWasRead 23 = .ok (.aload_n 0, 1) := by decide +kernel
theorem dX4_stampsForWhatWasRead_24 : decode cX4_stampsForWhatWasRead 24 = .ok (.getfield 41, 3) := by decide +kernel
theorem dX4_stampsForWhatWasRead_27 : decode cX4_stampsForWhatWasRead 27 = .ok (.getfield 208, 3) := by decide +kernel
theorem dX4_stampsForWhatWasRead_30 : decode cX4_stampsForWhatWasRead 30 = .ok (.aload_n 0, 1) := by decide +kernel
theorem dX4_stampsForWhatWasRead_31 : decode cX4_stampsForWhatWasRead 31 = .ok (.getfield 41, 3) := by decide +kernel
theorem dX4_stampsForWhatWasRead_34 : decode cX4_stampsForWhatWasRead 34 = .ok (.getfield 205, 3) := by decide +kernel
theorem dX4_stampsForWhatWasRead_37 : decode cX4_stampsForWhatWasRead 37 = .ok (.aload_n 0, 1) := by decide +kernel
theorem dX4_stampsForWhatWasRead_38 : decode cX4_stampsForWhatWasRead 38 = .ok (.getfield 41, 3) := by decide +kernel
theorem dX4_stampsForWhatWasRead_41 : decode cX4_stampsForWhatWasRead 41 = .ok (.getfield 211, 3) := by decide +kernel
theorem dX4_stampsForWhatWasRead_44 : decode cX4_stampsForWhatWasRead 44 = .ok (.aload_n 0, 1) := by decide +kernel
theorem dX4_stampsForWhatWasRead_45 : decode cX4_stampsForWhatWasRead 45 = .ok (.getfield 41, 3) := by decide +kernel
theorem dX4_stampsForWhatWasRead_48 : decode cX4_stampsForWhatWasRead 48 = .ok (.getfield 214, 3) := by decide +kernel
theorem dX4_stampsForWhatWasRead_51 : decode cX4_stampsForWhatWasRead 51 = .ok (.invokevirtual 85, 3) := by decide +kernel
theorem dX4_stampsForWhatWasRead_54 : decode cX4_stampsForWhatWasRead 54 = .ok (.istore_n 1, 1) := by decide +kernel
theorem dX4_stampsForWhatWasRead_55 : decode cX4_stampsForWhatWasRead 55 = .ok (.iload_n 1, 1) := by decide +kernel
theorem dX4_stampsForWhatWasRead_56 : decode cX4_stampsForWhatWasRead 56 = .ok (.ifCond .ne 7, 3) := by decide +kernel
theorem dX4_stampsForWhatWasRead_59 : decode cX4_stampsForWhatWasRead 59 = .ok (.iconst 1, 1) := by decide +kernel
theorem dX4_stampsForWhatWasRead_60 : decode cX4_stampsForWhatWasRead 60 = .ok (.goto 4, 3) := by decide +kernel
theorem dX4_stampsForWhatWasRead_63 : decode cX4_stampsForWhatWasRead 63 = .ok (.iconst 0, 1) := by decide +kernel
theorem dX4_stampsForWhatWasRead_64 : decode cX4_stampsForWhatWasRead 64 = .ok (.ireturn, 1) := by decide +kernel
set_option maxRecDepth 20000 in
theorem ggX4_isPupil_X4_isWithin : GoodIn wsX4_isPupil wsX4_isWithin := goodIn_r _ [4] (by decide +kernel) (by decide +kernel)
set_option maxRecDepth 20000 in
theorem gX4_isPupil_X4_isWithin : GoodIn wsX4_isPupil (va_wsS RX4 49 yX4_isWithin wsX4_isWithin) := goodIn_app (goodIn_of _ (by decide +kernel)) ggX4_isPupil_X4_isWithin
theorem dX4_isPupil_0 : decode cX4_isPupil 0 = .ok (.iload_n 0, 1) := by decide +kernel
theorem dX4_isPupil_1 : decode cX4_isPupil 1 = .ok (.iconst 0, 1) := by decide +kernel
theorem dX4_isPupil_2 : decode cX4_isPupil 2 = .ok (.bipush 9, 2) := by decide +kernel
theorem dX4_isPupil_4 : decode cX4_isPupil 4 = .ok (.invokestatic 49, 3) := by decide +kernel
theorem dX4_isPupil_7 : decode cX4_isPupil 7 = .ok (.ireturn, 1) := by decide +kernel
theorem dX4_isWithin_0 : decode cX4_isWithin 0 = .ok (.iload_n 0, 1) := by decide +kernel
theorem dX4_isWithin_1 : decode cX4_isWithin 1 = .ok (.iload_n 1, 1) := by decide +kernel
theorem dX4_isWithin_2 : decode cX4_isWithin 2 = .ok (.if_icmp .lt 12, 3) := by decide +kernel
theorem dX4_isWithin_5 : decode cX4_isWithin 5 = .ok (.iload_n 0, 1) := by decide +kernel
theorem dX4_isWithin_6 : decode cX4_isWithin 6 = .ok (.iload_n 2, 1) := by decide +kernel
theorem dX4_isWithin_7 : decode cX4_isWithin 7 = .ok (.if_icmp .gt 7, 3) := by decide +kernel
theorem dX4_isWithin_10 : decode cX4_isWithin 10 = .ok (.iconst 1, 1) := by decide +kernel
theorem dX4_isWithin_11 : decode cX4_isWithin 11 = .ok (.goto 4, 3) := by decide +kernel
theorem dX4_isWithin_14 : decode cX4_isWithin 14 = .ok (.iconst 0, 1) := by decide +kernel
theorem dX4_isWithin_15 : decode cX4_isWithin 15 = .ok (.ireturn, 1) := by decide +kernel
theorem dX4_classOf_0 : decode cX4_classOf 0 = .ok (.iload_n 0, 1) := by decide +kernel
theorem dX4_classOf_1 : decode cX4_classOf 1 = .ok (.iconst 2, 1) := by decide +kernel
theorem dX4_classOf_2 : decode cX4_classOf 2 = .ok (.idiv, 1) := by decide +kernel
theorem dX4_classOf_3 : decode cX4_classOf 3 = .ok (.ireturn, 1) := by decide +kernel
theorem dX4_sum_0 : decode cX4_sum 0 = .ok (.iconst 0, 1) := by decide +kernel
theorem dX4_sum_1 : decode cX4_sum 1 = .ok (.istore_n 1, 1) := by decide +kernel
theorem dX4_sum_2 : decode cX4_sum 2 = .ok (.iconst 0, 1) := by decide +kernel
theorem dX4_sum_3 : decode cX4_sum 3 = .ok (.istore_n 2, 1) := by decide +kernel
theorem dX4_sum_4 : decode cX4_sum 4 = .ok (.iload_n 2, 1) := by decide +kernel
theorem dX4_sum_5 : decode cX4_sum 5 = .ok (.aload_n 0, 1) := by decide +kernel
theorem dX4_sum_6 : decode cX4_sum 6 = .ok (.arraylength, 1) := by decide +kernel
theorem dX4_sum_7 : decode cX4_sum 7 = .ok (.if_icmp .ge 15, 3) := by decide +kernel
theorem dX4_sum_10 : decode cX4_sum 10 = .ok (.iload_n 1, 1) := by decide +kernel
theorem dX4_sum_11 : decode cX4_sum 11 = .ok (.aload_n 0, 1) := by decide +kernel
theorem dX4_sum_12 : decode cX4_sum 12 = .ok (.iload_n 2, 1) := by decide +kernel
theorem dX4_sum_13 : decode cX4_sum 13 = .ok (.iaload, 1) := by decide +kernel
theorem dX4_sum_14 : decode cX4_sum 14 = .ok (.iadd, 1) := by decide +kernel
theorem dX4_sum_15 : decode cX4_sum 15 = .ok (.istore_n 1, 1) := by decide +kernel
theorem dX4_sum_16 : decode cX4_sum 16 = .ok (.iinc 2 1, 3) := by decide +kernel
theorem dX4_sum_19 : decode cX4_sum 19 = .ok (.goto (-15), 3) := by decide +kernel
theorem dX4_sum_22 : decode cX4_sum 22 = .ok (.iload_n 1, 1) := by decide +kernel
theorem dX4_sum_23 : decode cX4_sum 23 = .ok (.ireturn, 1) := by decide +kernel
theorem dX4_copy_0 : decode cX4_copy 0 = .ok (.aload_n 0, 1) := by decide +kernel
theorem dX4_copy_1 : decode cX4_copy 1 = .ok (.iconst 0, 1) := by decide +kernel
theorem dX4_copy_2 : decode cX4_copy 2 = .ok (.aload_n 1, 1) := by decide +kernel
theorem dX4_copy_3 : decode cX4_copy 3 = .ok (.iconst 0, 1) := by decide +kernel
theorem dX4_copy_4 : decode cX4_copy 4 = .ok (.aload_n 0, 1) := by decide +kernel
theorem dX4_copy_5 : decode cX4_copy 5 = .ok (.arraylength, 1) := by decide +kernel
theorem dX4_copy_6 : decode cX4_copy 6 = .ok (.aload_n 1, 1) := by decide +kernel
theorem dX4_copy_7 : decode cX4_copy 7 = .ok (.arraylength, 1) := by decide +kernel
theorem dX4_copy_8 : decode cX4_copy 8 = .ok (.invokestatic 217, 3) := by decide +kernel
theorem dX4_copy_11 : decode cX4_copy 11 = .ok (.invokestatic 222, 3) := by decide +kernel
theorem dX4_copy_14 : decode cX4_copy 14 = .ok (.return_, 1) := by decide +kernel
theorem dJ9_max_7cf53_0 : decode cJ9_max_7cf53 0 = .ok (.iload_n 0, 1) := by decide +kernel
theorem dJ9_max_7cf53_1 : decode cJ9_max_7cf53 1 = .ok (.iload_n 1, 1) := by decide +kernel
theorem dJ9_max_7cf53_2 : decode cJ9_max_7cf53 2 = .ok (.if_icmp .lt 7, 3) := by decide +kernel
theorem dJ9_max_7cf53_5 : decode cJ9_max_7cf53 5 = .ok (.iload_n 0, 1) := by decide +kernel
theorem dJ9_max_7cf53_6 : decode cJ9_max_7cf53 6 = .ok (.goto 4, 3) := by decide +kernel
theorem dJ9_max_7cf53_9 : decode cJ9_max_7cf53 9 = .ok (.iload_n 1, 1) := by decide +kernel
theorem dJ9_max_7cf53_10 : decode cJ9_max_7cf53 10 = .ok (.ireturn, 1) := by decide +kernel
theorem dJ9_min_7cf53_0 : decode cJ9_min_7cf53 0 = .ok (.iload_n 0, 1) := by decide +kernel
theorem dJ9_min_7cf53_1 : decode cJ9_min_7cf53 1 = .ok (.iload_n 1, 1) := by decide +kernel
theorem dJ9_min_7cf53_2 : decode cJ9_min_7cf53 2 = .ok (.if_icmp .gt 7, 3) := by decide +kernel
theorem dJ9_min_7cf53_5 : decode cJ9_min_7cf53 5 = .ok (.iload_n 0, 1) := by decide +kernel
theorem dJ9_min_7cf53_6 : decode cJ9_min_7cf53 6 = .ok (.goto 4, 3) := by decide +kernel
theorem dJ9_min_7cf53_9 : decode cJ9_min_7cf53 9 = .ok (.iload_n 1, 1) := by decide +kernel
theorem dJ9_min_7cf53_10 : decode cJ9_min_7cf53 10 = .ok (.ireturn, 1) := by decide +kernel
