theorem inlX0 : ∀ w ∈ wsX00, w ∈ wsL_law := fun _ h => List.mem_append_left _ (List.mem_append_left _ (List.mem_append_left _ (List.mem_append_right _ h)))
set_option maxRecDepth 20000 in
theorem ggX0_init_X3_init : GoodIn wsX0_init wsX3_init := goodIn_r _ [12, 13, 2, 3, 14, 15, 16, 17, 18, 19, 20, 21, 22, 23, 24, 25, 26, 27, 28, 29, 30, 31, 32, 33, 34, 35, 36, 37, 38, 39, 40, 44, 45, 46, 47, 48, 49, 50, 51, 52, 53, 54, 55, 56, 57, 58] (by decide +kernel) (by decide +kernel)
set_option maxRecDepth 20000 in
theorem gX0_init_X3_init : GoodIn wsX0_init (wsX3_init) := ggX0_init_X3_init
theorem dX0_init_0 : decode cX0_init 0 = .ok (.aload_n 0, 1) := by decide +kernel
theorem dX0_init_1 : decode cX0_init 1 = .ok (.invokespecial 3, 3) := by decide +kernel
theorem dX0_init_4 : decode cX0_init 4 = .ok (.aload_n 0, 1) := by decide +kernel
theorem dX0_init_5 : decode cX0_init 5 = .ok (.bipush 6, 2) := by decide +kernel
theorem dX0_init_7 : decode cX0_init 7 = .ok (.anewarray 9, 3) := by decide +kernel
theorem dX0_init_10 : decode cX0_init 10 = .ok (.putfield 11, 3) := by decide +kernel
theorem dX0_init_13 : decode cX0_init 13 = .ok (.aload_n 0, 1) := by decide +kernel
theorem dX0_init_14 : decode cX0_init 14 = .ok (.iconst 0, 1) := by decide +kernel
theorem dX0_init_15 : decode cX0_init 15 = .ok (.putfield 17, 3) := by decide +kernel
theorem dX0_init_18 : decode cX0_init 18 = .ok (.aload_n 0, 1) := by decide +kernel
theorem dX0_init_19 : decode cX0_init 19 = .ok (.iconst 0, 1) := by decide +kernel
theorem dX0_init_20 : decode cX0_init 20 = .ok (.putfield 21, 3) := by decide +kernel
theorem dX0_init_23 : decode cX0_init 23 = .ok (.iconst 0, 1) := by decide +kernel
theorem dX0_init_24 : decode cX0_init 24 = .ok (.istore_n 1, 1) := by decide +kernel
theorem dX0_init_25 : decode cX0_init 25 = .ok (.iload_n 1, 1) := by decide +kernel
theorem dX0_init_26 : decode cX0_init 26 = .ok (.bipush 6, 2) := by decide +kernel
theorem dX0_init_28 : decode cX0_init 28 = .ok (.if_icmp .ge 22, 3) := by decide +kernel
theorem dX0_init_31 : decode cX0_init 31 = .ok (.aload_n 0, 1) := by decide +kernel
theorem dX0_init_32 : decode cX0_init 32 = .ok (.getfield 11, 3) := by decide +kernel
theorem dX0_init_35 : decode cX0_init 35 = .ok (.iload_n 1, 1) := by decide +kernel
theorem dX0_init_36 : decode cX0_init 36 = .ok (.new 9, 3) := by decide +kernel
theorem dX0_init_39 : decode cX0_init 39 = .ok (.dup, 1) := by decide +kernel
theorem dX0_init_40 : decode cX0_init 40 = .ok (.invokespecial 24, 3) := by decide +kernel
theorem dX0_init_43 : decode cX0_init 43 = .ok (.aastore, 1) := by decide +kernel
theorem dX0_init_44 : decode cX0_init 44 = .ok (.iinc 1 1, 3) := by decide +kernel
theorem dX0_init_47 : decode cX0_init 47 = .ok (.goto (-22), 3) := by decide +kernel
theorem dX0_init_50 : decode cX0_init 50 = .ok (.return_, 1) := by decide +kernel
set_option maxRecDepth 20000 in
theorem ggX0_keep_X3_become : GoodIn wsX0_keep wsX3_become := goodIn_r _ [12, 13, 14, 15, 16, 17, 18, 19, 20, 21, 22, 23, 24, 25, 26, 27, 28, 29, 30, 31, 5, 6, 7, 32, 33, 34, 35, 39, 40, 41, 42, 43, 44, 45, 46, 47, 48, 49, 50, 51, 52, 53] (by decide +kernel) (by decide +kernel)
set_option maxRecDepth 20000 in
theorem gX0_keep_X3_become : GoodIn wsX0_keep (wsV RX0 25 RX3 yX3_become wsX3_become) := goodIn_app (goodIn_of _ (by decide +kernel)) ggX0_keep_X3_become
theorem dX0_keep_0 : decode cX0_keep 0 = .ok (.aload_n 0, 1) := by decide +kernel
theorem dX0_keep_1 : decode cX0_keep 1 = .ok (.getfield 11, 3) := by decide +kernel
theorem dX0_keep_4 : decode cX0_keep 4 = .ok (.aload_n 0, 1) := by decide +kernel
theorem dX0_keep_5 : decode cX0_keep 5 = .ok (.getfield 17, 3) := by decide +kernel
theorem dX0_keep_8 : decode cX0_keep 8 = .ok (.aaload, 1) := by decide +kernel
theorem dX0_keep_9 : decode cX0_keep 9 = .ok (.aload_n 1, 1) := by decide +kernel
theorem dX0_keep_10 : decode cX0_keep 10 = .ok (.invokevirtual 25, 3) := by decide +kernel
theorem dX0_keep_13 : decode cX0_keep 13 = .ok (.aload_n 0, 1) := by decide +kernel
theorem dX0_keep_14 : decode cX0_keep 14 = .ok (.aload_n 0, 1) := by decide +kernel
theorem dX0_keep_15 : decode cX0_keep 15 = .ok (.getfield 17, 3) := by decide +kernel
theorem dX0_keep_18 : decode cX0_keep 18 = .ok (.iconst 1, 1) := by decide +kernel
theorem dX0_keep_19 : decode cX0_keep 19 = .ok (.iadd, 1) := by decide +kernel
theorem dX0_keep_20 : decode cX0_keep 20 = .ok (.bipush 6, 2) := by decide +kernel
theorem dX0_keep_22 : decode cX0_keep 22 = .ok (.irem, 1) := by decide +kernel
theorem dX0_keep_23 : decode cX0_keep 23 = .ok (.putfield 17, 3) := by decide +kernel
theorem dX0_keep_26 : decode cX0_keep 26 = .ok (.aload_n 0, 1) := by decide +kernel
theorem dX0_keep_27 : decode cX0_keep 27 = .ok (.bipush 6, 2) := by decide +kernel
theorem dX0_keep_29 : decode cX0_keep 29 = .ok (.aload_n 0, 1) := by decide +kernel
theorem dX0_keep_30 : decode cX0_keep 30 = .ok (.getfield 21, 3) := by decide +kernel
theorem dX0_keep_33 : decode cX0_keep 33 = .ok (.iconst 1, 1) := by decide +kernel
theorem dX0_keep_34 : decode cX0_keep 34 = .ok (.iadd, 1) := by decide +kernel
theorem dX0_keep_35 : decode cX0_keep 35 = .ok (.invokestatic 29, 3) := by decide +kernel
theorem dX0_keep_38 : decode cX0_keep 38 = .ok (.putfield 21, 3) := by decide +kernel
theorem dX0_keep_41 : decode cX0_keep 41 = .ok (.return_, 1) := by decide +kernel
set_option maxRecDepth 20000 in
theorem ggX0_takeBack_X3_become : GoodIn wsX0_takeBack wsX3_become := goodIn_r _ [8, 9, 10, 11, 12, 13, 14, 15, 16, 17, 18, 19, 20, 21, 22, 23, 24, 25, 26, 27, 28, 29, 30, 31, 32, 33, 34, 38, 39, 40, 41, 42, 43, 44, 45, 46, 47, 48, 49, 50, 51, 52] (by decide +kernel) (by decide +kernel)
set_option maxRecDepth 20000 in
theorem gX0_takeBack_X3_become : GoodIn wsX0_takeBack (wsV RX0 25 RX3 yX3_become wsX3_become) := goodIn_app (goodIn_of _ (by decide +kernel)) ggX0_takeBack_X3_become
theorem dX0_takeBack_0 : decode cX0_takeBack 0 = .ok (.aload_n 0, 1) := by decide +kernel
theorem dX0_takeBack_1 : decode cX0_takeBack 1 = .ok (.aload_n 0, 1) := by decide +kernel
theorem dX0_takeBack_2 : decode cX0_takeBack 2 = .ok (.getfield 17, 3) := by decide +kernel
theorem dX0_takeBack_5 : decode cX0_takeBack 5 = .ok (.bipush 6, 2) := by decide +kernel
theorem dX0_takeBack_7 : decode cX0_takeBack 7 = .ok (.iadd, 1) := by decide +kernel
theorem dX0_takeBack_8 : decode cX0_takeBack 8 = .ok (.iconst 1, 1) := by decide +kernel
theorem dX0_takeBack_9 : decode cX0_takeBack 9 = .ok (.isub, 1) := by decide +kernel
theorem dX0_takeBack_10 : decode cX0_takeBack 10 = .ok (.bipush 6, 2) := by decide +kernel
theorem dX0_takeBack_12 : decode cX0_takeBack 12 = .ok (.irem, 1) := by decide +kernel
theorem dX0_takeBack_13 : decode cX0_takeBack 13 = .ok (.putfield 17, 3) := by decide +kernel
theorem dX0_takeBack_16 : decode cX0_takeBack 16 = .ok (.aload_n 0, 1) := by decide +kernel
theorem dX0_takeBack_17 : decode cX0_takeBack 17 = .ok (.dup, 1) := by decide +kernel
theorem dX0_takeBack_18 : decode cX0_takeBack 18 = .ok (.getfield 21, 3) := by decide +kernel
theorem dX0_takeBack_21 : decode cX0_takeBack 21 = .ok (.iconst 1, 1) := by decide +kernel
theorem dX0_takeBack_22 : decode cX0_takeBack 22 = .ok (.isub, 1) := by decide +kernel
theorem dX0_takeBack_23 : decode cX0_takeBack 23 = .ok (.putfield 21, 3) := by decide +kernel
theorem dX0_takeBack_26 : decode cX0_takeBack 26 = .ok (.aload_n 1, 1) := by decide +kernel
theorem dX0_takeBack_27 : decode cX0_takeBack 27 = .ok (.aload_n 0, 1) := by decide +kernel
theorem dX0_takeBack_28 : decode cX0_takeBack 28 = .ok (.getfield 11, 3) := by decide +kernel
theorem dX0_takeBack_31 : decode cX0_takeBack 31 = .ok (.aload_n 0, 1) := by decide +kernel
theorem dX0_takeBack_32 : decode cX0_takeBack 32 = .ok (.getfield 17, 3) := by decide +kernel
theorem dX0_takeBack_35 : decode cX0_takeBack 35 = .ok (.aaload, 1) := by decide +kernel
theorem dX0_takeBack_36 : decode cX0_takeBack 36 = .ok (.invokevirtual 25, 3) := by decide +kernel
theorem dX0_takeBack_39 : decode cX0_takeBack 39 = .ok (.return_, 1) := by decide +kernel
theorem inlX1 : ∀ w ∈ wsX10, w ∈ wsL_law := fun _ h => List.mem_append_left _ (List.mem_append_left _ (List.mem_append_right _ h))
theorem dX1_init_0 : decode cX1_init 0 = .ok (.aload_n 0, 1) := by decide +kernel
theorem dX1_init_1 : decode cX1_init 1 = .ok (.invokespecial 3, 3) := by decide +kernel
theorem dX1_init_4 : decode cX1_init 4 = .ok (.aload_n 0, 1) := by decide +kernel
theorem dX1_init_5 : decode cX1_init 5 = .ok (.bipush 60, 2) := by decide +kernel
theorem dX1_init_7 : decode cX1_init 7 = .ok (.newarray .char, 2) := by decide +kernel
theorem dX1_init_9 : decode cX1_init 9 = .ok (.putfield 9, 3) := by decide +kernel
theorem dX1_init_12 : decode cX1_init 12 = .ok (.aload_n 0, 1) := by decide +kernel
theorem dX1_init_13 : decode cX1_init 13 = .ok (.iconst 0, 1) := by decide +kernel
theorem dX1_init_14 : decode cX1_init 14 = .ok (.putfield 15, 3) := by decide +kernel
theorem dX1_init_17 : decode cX1_init 17 = .ok (.return_, 1) := by decide +kernel
theorem inlX2 : ∀ w ∈ wsX20, w ∈ wsL_law := fun _ h => List.mem_append_left _ (List.mem_append_right _ h)
theorem dX2_init_0 : decode cX2_init 0 = .ok (.aload_n 0, 1) := by decide +kernel
theorem dX2_init_1 : decode cX2_init 1 = .ok (.invokespecial 3, 3) := by decide +kernel
theorem dX2_init_4 : decode cX2_init 4 = .ok (.aload_n 0, 1) := by decide +kernel
theorem dX2_init_5 : decode cX2_init 5 = .ok (.iconst 0, 1) := by decide +kernel
theorem dX2_init_6 : decode cX2_init 6 = .ok (.putfield 11, 3) := by decide +kernel
theorem dX2_init_9 : decode cX2_init 9 = .ok (.aload_n 0, 1) := by decide +kernel
theorem dX2_init_10 : decode cX2_init 10 = .ok (.iconst 0, 1) := by decide +kernel
theorem dX2_init_11 : decode cX2_init 11 = .ok (.putfield 15, 3) := by decide +kernel
theorem dX2_init_14 : decode cX2_init 14 = .ok (.aload_n 0, 1) := by decide +kernel
theorem dX2_init_15 : decode cX2_init 15 = .ok (.iconst 0, 1) := by decide +kernel
theorem dX2_init_16 : decode cX2_init 16 = .ok (.putfield 18, 3) := by decide +kernel
theorem dX2_init_19 : decode cX2_init 19 = .ok (.aload_n 0, 1) := by decide +kernel
theorem dX2_init_20 : decode cX2_init 20 = .ok (.iconst 0, 1) := by decide +kernel
theorem dX2_init_21 : decode cX2_init 21 = .ok (.putfield 21, 3) := by decide +kernel
theorem dX2_init_24 : decode cX2_init 24 = .ok (.aload_n 0, 1) := by decide +kernel
theorem dX2_init_25 : decode cX2_init 25 = .ok (.bipush (-6), 2) := by decide +kernel
theorem dX2_init_27 : decode cX2_init 27 = .ok (.putfield 24, 3) := by decide +kernel
theorem dX2_init_30 : decode cX2_init 30 = .ok (.return_, 1) := by decide +kernel
theorem dX2_begin_0 : decode cX2_begin 0 = .ok (.aload_n 0, 1) := by decide +kernel
theorem dX2_begin_1 : decode cX2_begin 1 = .ok (.iconst 0, 1) := by decide +kernel
theorem dX2_begin_2 : decode cX2_begin 2 = .ok (.putfield 11, 3) := by decide +kernel
theorem dX2_begin_5 : decode cX2_begin 5 = .ok (.aload_n 0, 1) := by decide +kernel
theorem dX2_begin_6 : decode cX2_begin 6 = .ok (.bipush (-6), 2) := by decide +kernel
theorem dX2_begin_8 : decode cX2_begin 8 = .ok (.putfield 24, 3) := by decide +kernel
theorem dX2_begin_11 : decode cX2_begin 11 = .ok (.return_, 1) := by decide +kernel
set_option maxRecDepth 20000 in
theorem ggX2_takes_X2_takesPupil : GoodIn wsX2_takes wsX2_takesPupil := goodIn_r _ [7, 8, 9, 10, 6, 11, 12, 13, 14, 15, 16, 17, 18, 1, 41, 42, 43, 44, 45] (by decide +kernel) (by decide +kernel)
set_option maxRecDepth 20000 in
theorem gX2_takes_X2_takesPupil : GoodIn wsX2_takes (wsV RX2 27 RX2 yX2_takesPupil wsX2_takesPupil) := goodIn_app (goodIn_of _ (by decide +kernel)) ggX2_takes_X2_takesPupil
set_option maxRecDepth 20000 in
theorem ggX2_takes_X2_takesExcuse : GoodIn wsX2_takes wsX2_takesExcuse := goodIn_r _ [22, 23, 12, 13, 14, 15, 16, 17, 6, 18, 1, 41, 42, 43, 44, 45] (by decide +kernel) (by decide +kernel)
set_option maxRecDepth 20000 in
theorem gX2_takes_X2_takesExcuse : GoodIn wsX2_takes (wsV RX2 31 RX2 yX2_takesExcuse wsX2_takesExcuse) := goodIn_app (goodIn_of _ (by decide +kernel)) ggX2_takes_X2_takesExcuse
set_option maxRecDepth 20000 in
theorem ggX2_takes_X2_goesOn : GoodIn wsX2_takes wsX2_goesOn := goodIn_r _ [18, 1, 41, 42, 43, 44, 45] (by decide +kernel) (by decide +kernel)
set_option maxRecDepth 20000 in
theorem gX2_takes_X2_goesOn : GoodIn wsX2_takes (wsV RX2 34 RX2 yX2_goesOn wsX2_goesOn) := goodIn_app (goodIn_of _ (by decide +kernel)) ggX2_takes_X2_goesOn
set_option maxRecDepth 20000 in
theorem ggX2_takes_X2_takesMinutes : GoodIn wsX2_takes wsX2_takesMinutes := goodIn_r _ [27, 2, 9, 10, 6, 11, 12, 13, 14, 15, 16, 17, 18, 1, 41, 42, 43, 44, 45] (by decide +kernel) (by decide +kernel)
set_option maxRecDepth 20000 in
theorem gX2_takes_X2_takesMinutes : GoodIn wsX2_takes (wsV RX2 38 RX2 yX2_takesMinutes wsX2_takesMinutes) := goodIn_app (goodIn_of _ (by decide +kernel)) ggX2_takes_X2_takesMinutes
set_option maxRecDepth 20000 in
theorem ggX2_takes_X2_takesAfterMinutes : GoodIn wsX2_takes wsX2_takesAfterMinutes := goodIn_r _ [31, 15, 16, 17, 6, 18, 1, 32, 33, 34, 35, 36, 41, 42, 43, 44, 45] (by decide +kernel) (by decide +kernel)
set_option maxRecDepth 20000 in
theorem gX2_takes_X2_takesAfterMinutes : GoodIn wsX2_takes (wsV RX2 42 RX2 yX2_takesAfterMinutes wsX2_takesAfterMinutes) := goodIn_app (goodIn_of _ (by decide +kernel)) ggX2_takes_X2_takesAfterMinutes
set_option maxRecDepth 20000 in
theorem ggX2_takes_X2_takesWitness : GoodIn wsX2_takes wsX2_takesWitness := goodIn_r _ [40, 8, 36, 9, 10, 6, 11, 12, 13, 14, 15, 16, 17, 18, 1, 41, 42, 43, 44, 45] (by decide +kernel) (by decide +kernel)
set_option maxRecDepth 20000 in
theorem gX2_takes_X2_takesWitness : GoodIn wsX2_takes (wsV RX2 45 RX2 yX2_takesWitness wsX2_takesWitness) := goodIn_app (goodIn_of _ (by decide +kernel)) ggX2_takes_X2_takesWitness
set_option maxRecDepth 20000 in
theorem ggX2_takes_X2_takesComma : GoodIn wsX2_takes wsX2_takesComma := goodIn_r _ [35, 36, 15, 16, 17, 6, 18, 1, 41, 42, 43, 44, 45] (by decide +kernel) (by decide +kernel)
set_option maxRecDepth 20000 in
theorem gX2_takes_X2_takesComma : GoodIn wsX2_takes (wsV RX2 48 RX2 yX2_takesComma wsX2_takesComma) := goodIn_app (goodIn_of _ (by decide +kernel)) ggX2_takes_X2_takesComma
theorem dX2_takes_0 : decode cX2_takes 0 = .ok (.aload_n 0, 1) := by decide +kernel
theorem dX2_takes_1 : decode cX2_takes 1 = .ok (.getfield 11, 3) := by decide +kernel
theorem dX2_takes_4 : decode cX2_takes 4 = .ok (.tableswitch 134 0 6 #[44, 50, 56, 73, 95, 122, 128], 44) := by decide +kernel
theorem dX2_takes_48 : decode cX2_takes 48 = .ok (.aload_n 0, 1) := by decide +kernel
theorem dX2_takes_49 : decode cX2_takes 49 = .ok (.iload_n 1, 1) := by decide +kernel
theorem dX2_takes_50 : decode cX2_takes 50 = .ok (.invokevirtual 27, 3) := by decide +kernel
theorem dX2_takes_53 : decode cX2_takes 53 = .ok (.ireturn, 1) := by decide +kernel
theorem dX2_takes_54 : decode cX2_takes 54 = .ok (.aload_n 0, 1) := by decide +kernel
theorem dX2_takes_55 : decode cX2_takes 55 = .ok (.iload_n 1, 1) := by decide +kernel
theorem dX2_takes_56 : decode cX2_takes 56 = .ok (.invokevirtual 31, 3) := by decide +kernel
theorem dX2_takes_59 : decode cX2_takes 59 = .ok (.ireturn, 1) := by decide +kernel
theorem dX2_takes_60 : decode cX2_takes 60 = .ok (.aload_n 0, 1) := by decide +kernel
theorem dX2_takes_61 : decode cX2_takes 61 = .ok (.iload_n 1, 1) := by decide +kernel
theorem dX2_takes_62 : decode cX2_takes 62 = .ok (.bipush 109, 2) := by decide +kernel
theorem dX2_takes_64 : decode cX2_takes 64 = .ok (.if_icmp .ne 7, 3) := by decide +kernel
theorem dX2_takes_67 : decode cX2_takes 67 = .ok (.iconst 1, 1) := by decide +kernel
theorem dX2_takes_68 : decode cX2_takes 68 = .ok (.goto 4, 3) := by decide +kernel
theorem dX2_takes_71 : decode cX2_takes 71 = .ok (.iconst 0, 1) := by decide +kernel
theorem dX2_takes_72 : decode cX2_takes 72 = .ok (.iconst 3, 1) := by decide +kernel
theorem dX2_takes_73 : decode cX2_takes 73 = .ok (.invokevirtual 34, 3) := by decide +kernel
theorem dX2_takes_76 : decode cX2_takes 76 = .ok (.ireturn, 1) := by decide +kernel
theorem dX2_takes_77 : decode cX2_takes 77 = .ok (.iload_n 1, 1) := by decide +kernel
theorem dX2_takes_78 : decode cX2_takes 78 = .ok (.bipush 48, 2) := by decide +kernel
theorem dX2_takes_80 : decode cX2_takes 80 = .ok (.if_icmp .eq 17, 3) := by decide +kernel
theorem dX2_takes_83 : decode cX2_takes 83 = .ok (.aload_n 0, 1) := by decide +kernel
theorem dX2_takes_84 : decode cX2_takes 84 = .ok (.iload_n 1, 1) := by decide +kernel
theorem dX2_takes_85 : decode cX2_takes 85 = .ok (.iconst 0, 1) := by decide +kernel
theorem dX2_takes_86 : decode cX2_takes 86 = .ok (.iconst 4, 1) := by decide +kernel
theorem dX2_takes_87 : decode cX2_takes 87 = .ok (.invokevirtual 38, 3) := by decide +kernel
theorem dX2_takes_90 : decode cX2_takes 90 = .ok (.ifCond .eq 7, 3) := by decide +kernel
theorem dX2_takes_93 : decode cX2_takes 93 = .ok (.iconst 1, 1) := by decide +kernel
theorem dX2_takes_94 : decode cX2_takes 94 = .ok (.goto 4, 3) := by decide +kernel
theorem dX2_takes_97 : decode cX2_takes 97 = .ok (.iconst 0, 1) := by decide +kernel
theorem dX2_takes_98 : decode cX2_takes 98 = .ok (.ireturn, 1) := by decide +kernel
theorem dX2_takes_99 : decode cX2_takes 99 = .ok (.aload_n 0, 1) := by decide +kernel
theorem dX2_takes_100 : decode cX2_takes 100 = .ok (.iload_n 1, 1) := by decide +kernel
theorem dX2_takes_101 : decode cX2_takes 101 = .ok (.aload_n 0, 1) := by decide +kernel
theorem dX2_takes_102 : decode cX2_takes 102 = .ok (.getfield 21, 3) := by decide +kernel
theorem dX2_takes_105 : decode cX2_takes 105 = .ok (.iconst 5, 1) := by decide +kernel
theorem dX2_takes_106 : decode cX2_takes 106 = .ok (.invokevirtual 38, 3) := by decide +kernel
theorem dX2_takes_109 : decode cX2_takes 109 = .ok (.ifCond .ne 11, 3) := by decide +kernel
theorem dX2_takes_112 : decode cX2_takes 112 = .ok (.aload_n 0, 1) := by decide +kernel
theorem dX2_takes_113 : decode cX2_takes 113 = .ok (.iload_n 1, 1) := by decide +kernel
theorem dX2_takes_114 : decode cX2_takes 114 = .ok (.invokevirtual 42, 3) := by decide +kernel
theorem dX2_takes_117 : decode cX2_takes 117 = .ok (.ifCond .eq 7, 3) := by decide +kernel
theorem dX2_takes_120 : decode cX2_takes 120 = .ok (.iconst 1, 1) := by decide +kernel
theorem dX2_takes_121 : decode cX2_takes 121 = .ok (.goto 4, 3) := by decide +kernel
theorem dX2_takes_124 : decode cX2_takes 124 = .ok (.iconst 0, 1) := by decide +kernel
theorem dX2_takes_125 : decode cX2_takes 125 = .ok (.ireturn, 1) := by decide +kernel
theorem dX2_takes_126 : decode cX2_takes 126 = .ok (.aload_n 0, 1) := by decide +kernel
theorem dX2_takes_127 : decode cX2_takes 127 = .ok (.iload_n 1, 1) := by decide +kernel
theorem dX2_takes_128 : decode cX2_takes 128 = .ok (.invokevirtual 42, 3) := by decide +kernel
theorem dX2_takes_131 : decode cX2_takes 131 = .ok (.ireturn, 1) := by decide +kernel
theorem dX2_takes_132 : decode cX2_takes 132 = .ok (.aload_n 0, 1) := by decide +kernel
theorem dX2_takes_133 : decode cX2_takes 133 = .ok (.iload_n 1, 1) := by decide +kernel
theorem dX2_takes_134 : decode cX2_takes 134 = .ok (.invokevirtual 45, 3) := by decide +kernel
theorem dX2_takes_137 : decode cX2_takes 137 = .ok (.ireturn, 1) := by decide +kernel
theorem dX2_takes_138 : decode cX2_takes 138 = .ok (.aload_n 0, 1) := by decide +kernel
theorem dX2_takes_139 : decode cX2_takes 139 = .ok (.iload_n 1, 1) := by decide +kernel
theorem dX2_takes_140 : decode cX2_takes 140 = .ok (.invokevirtual 48, 3) := by decide +kernel
theorem dX2_takes_143 : decode cX2_takes 143 = .ok (.ireturn, 1) := by decide +kernel
theorem dX2_canEnd_0 : decode cX2_canEnd 0 = .ok (.aload_n 0, 1) := by decide +kernel
theorem dX2_canEnd_1 : decode cX2_canEnd 1 = .ok (.getfield 11, 3) := by decide +kernel
theorem dX2_canEnd_4 : decode cX2_canEnd 4 = .ok (.iconst 4, 1) := by decide +kernel
theorem dX2_canEnd_5 : decode cX2_canEnd 5 = .ok (.if_icmp .eq 20, 3) := by decide +kernel
theorem dX2_canEnd_8 : decode cX2_canEnd 8 = .ok (.aload_n 0, 1) := by decide +kernel
theorem dX2_canEnd_9 : decode cX2_canEnd 9 = .ok (.getfield 11, 3) := by decide +kernel
theorem dX2_canEnd_12 : decode cX2_canEnd 12 = .ok (.iconst 5, 1) := by decide +kernel
theorem dX2_canEnd_13 : decode cX2_canEnd 13 = .ok (.if_icmp .eq 12, 3) := by decide +kernel
theorem dX2_canEnd_16 : decode cX2_canEnd 16 = .ok (.aload_n 0, 1) := by decide +kernel
theorem dX2_canEnd_17 : decode cX2_canEnd 17 = .ok (.getfield 11, 3) := by decide +kernel
theorem dX2_canEnd_20 : decode cX2_canEnd 20 = .ok (.bipush 7, 2) := by decide +kernel
theorem dX2_canEnd_22 : decode cX2_canEnd 22 = .ok (.if_icmp .ne 7, 3) := by decide +kernel
theorem dX2_canEnd_25 : decode cX2_canEnd 25 = .ok (.iconst 1, 1) := by decide +kernel
theorem dX2_canEnd_26 : decode cX2_canEnd 26 = .ok (.goto 4, 3) := by decide +kernel
theorem dX2_canEnd_29 : decode cX2_canEnd 29 = .ok (.iconst 0, 1) := by decide +kernel
theorem dX2_canEnd_30 : decode cX2_canEnd 30 = .ok (.ireturn, 1) := by decide +kernel
theorem dX2_goesOn_0 : decode cX2_goesOn 0 = .ok (.iload_n 1, 1) := by decide +kernel
theorem dX2_goesOn_1 : decode cX2_goesOn 1 = .ok (.ifCond .eq 8, 3) := by decide +kernel
theorem dX2_goesOn_4 : decode cX2_goesOn 4 = .ok (.aload_n 0, 1) := by decide +kernel
theorem dX2_goesOn_5 : decode cX2_goesOn 5 = .ok (.iload_n 2, 1) := by decide +kernel
theorem dX2_goesOn_6 : decode cX2_goesOn 6 = .ok (.putfield 11, 3) := by decide +kernel
theorem dX2_goesOn_9 : decode cX2_goesOn 9 = .ok (.iload_n 1, 1) := by decide +kernel
theorem dX2_goesOn_10 : decode cX2_goesOn 10 = .ok (.ireturn, 1) := by decide +kernel
set_option maxRecDepth 20000 in
theorem ggX2_takesPupil_X2_isDigit : GoodIn wsX2_takesPupil wsX2_isDigit := goodIn_r _ [5, 6, 7, 8] (by decide +kernel) (by decide +kernel)
set_option maxRecDepth 20000 in
theorem gX2_takesPupil_X2_isDigit : GoodIn wsX2_takesPupil (va_wsS RX2 51 yX2_isDigit wsX2_isDigit) := goodIn_app (goodIn_of _ (by decide +kernel)) ggX2_takesPupil_X2_isDigit
set_option maxRecDepth 20000 in
theorem ggX2_takesPupil_X2_goesOn : GoodIn wsX2_takesPupil wsX2_goesOn := goodIn_r _ [12, 13, 14, 15, 16, 17, 18] (by decide +kernel) (by decide +kernel)
set_option maxRecDepth 20000 in
theorem gX2_takesPupil_X2_goesOn : GoodIn wsX2_takesPupil (wsV RX2 34 RX2 yX2_goesOn wsX2_goesOn) := goodIn_app (goodIn_of _ (by decide +kernel)) ggX2_takesPupil_X2_goesOn
theorem dX2_takesPupil_0 : decode cX2_takesPupil 0 = .ok (.iload_n 1, 1) := by decide +kernel
theorem dX2_takesPupil_1 : decode cX2_takesPupil 1 = .ok (.invokestatic 51, 3) := by decide +kernel
theorem dX2_takesPupil_4 : decode cX2_takesPupil 4 = .ok (.ifCond .eq 11, 3) := by decide +kernel
theorem dX2_takesPupil_7 : decode cX2_takesPupil 7 = .ok (.aload_n 0, 1) := by decide +kernel
theorem dX2_takesPupil_8 : decode cX2_takesPupil 8 = .ok (.iload_n 1, 1) := by decide +kernel
theorem dX2_takesPupil_9 : decode cX2_takesPupil 9 = .ok (.bipush 48, 2) := by decide +kernel
theorem dX2_takesPupil_11 : decode cX2_takesPupil 11 = .ok (.isub, 1) := by decide +kernel
theorem dX2_takesPupil_12 : decode cX2_takesPupil 12 = .ok (.putfield 15, 3) := by decide +kernel
theorem dX2_takesPupil_15 : decode cX2_takesPupil 15 = .ok (.aload_n 0, 1) := by decide +kernel
theorem dX2_takesPupil_16 : decode cX2_takesPupil 16 = .ok (.iload_n 1, 1) := by decide +kernel
theorem dX2_takesPupil_17 : decode cX2_takesPupil 17 = .ok (.invokestatic 51, 3) := by decide +kernel
theorem dX2_takesPupil_20 : decode cX2_takesPupil 20 = .ok (.iconst 1, 1) := by decide +kernel
theorem dX2_takesPupil_21 : decode cX2_takesPupil 21 = .ok (.invokevirtual 34, 3) := by decide +kernel
theorem dX2_takesPupil_24 : decode cX2_takesPupil 24 = .ok (.ireturn, 1) := by decide +kernel
set_option maxRecDepth 20000 in
theorem ggX2_takesExcuse_X4_isWithin : GoodIn wsX2_takesExcuse wsX4_isWithin := goodIn_r _ [4] (by decide +kernel) (by decide +kernel)
set_option maxRecDepth 20000 in
theorem gX2_takesExcuse_X4_isWithin_n54 : GoodIn wsX2_takesExcuse (wsX4_isWithin) := ggX2_takesExcuse_X4_isWithin
set_option maxRecDepth 20000 in
theorem ggX2_takesExcuse_X2_goesOn : GoodIn wsX2_takesExcuse wsX2_goesOn := goodIn_r _ [9, 10, 11, 12, 13, 14, 15] (by decide +kernel) (by decide +kernel)
set_option maxRecDepth 20000 in
theorem gX2_takesExcuse_X2_goesOn : GoodIn wsX2_takesExcuse (wsV RX2 34 RX2 yX2_goesOn wsX2_goesOn) := goodIn_app (goodIn_of _ (by decide +kernel)) ggX2_takesExcuse_X2_goesOn
theorem dX2_takesExcuse_0 : decode cX2_takesExcuse 0 = .ok (.iload_n 1, 1) := by decide +kernel
theorem dX2_takesExcuse_1 : decode cX2_takesExcuse 1 = .ok (.bipush 97, 2) := by decide +kernel
theorem dX2_takesExcuse_3 : decode cX2_takesExcuse 3 = .ok (.bipush 108, 2) := by decide +kernel
theorem dX2_takesExcuse_5 : decode cX2_takesExcuse 5 = .ok (.invokestatic 54, 3) := by decide +kernel
theorem dX2_takesExcuse_8 : decode cX2_takesExcuse 8 = .ok (.istore_n 2, 1) := by decide +kernel
theorem dX2_takesExcuse_9 : decode cX2_takesExcuse 9 = .ok (.iload_n 2, 1) := by decide +kernel
theorem dX2_takesExcuse_10 : decode cX2_takesExcuse 10 = .ok (.ifCond .eq 11, 3) := by decide +kernel
theorem dX2_takesExcuse_13 : decode cX2_takesExcuse 13 = .ok (.aload_n 0, 1) := by decide +kernel
theorem dX2_takesExcuse_14 : decode cX2_takesExcuse 14 = .ok (.iload_n 1, 1) := by decide +kernel
theorem dX2_takesExcuse_15 : decode cX2_takesExcuse 15 = .ok (.bipush 97, 2) := by decide +kernel
theorem dX2_takesExcuse_17 : decode cX2_takesExcuse 17 = .ok (.isub, 1) := by decide +kernel
theorem dX2_takesExcuse_18 : decode cX2_takesExcuse 18 = .ok (.putfield 18, 3) := by decide +kernel
theorem dX2_takesExcuse_21 : decode cX2_takesExcuse 21 = .ok (.aload_n 0, 1) := by decide +kernel
theorem dX2_takesExcuse_22 : decode cX2_takesExcuse 22 = .ok (.iload_n 2, 1) := by decide +kernel
theorem dX2_takesExcuse_23 : decode cX2_takesExcuse 23 = .ok (.iconst 2, 1) := by decide +kernel
theorem dX2_takesExcuse_24 : decode cX2_takesExcuse 24 = .ok (.invokevirtual 34, 3) := by decide +kernel
theorem dX2_takesExcuse_27 : decode cX2_takesExcuse 27 = .ok (.ireturn, 1) := by decide +kernel
set_option maxRecDepth 20000 in
theorem ggX2_takesMinutes_X2_isDigit : GoodIn wsX2_takesMinutes wsX2_isDigit := goodIn_r _ [5, 6, 7, 8] (by decide +kernel) (by decide +kernel)
set_option maxRecDepth 20000 in
theorem gX2_takesMinutes_X2_isDigit : GoodIn wsX2_takesMinutes (va_wsS RX2 51 yX2_isDigit wsX2_isDigit) := goodIn_app (goodIn_of _ (by decide +kernel)) ggX2_takesMinutes_X2_isDigit
set_option maxRecDepth 20000 in
theorem ggX2_takesMinutes_X2_goesOn : GoodIn wsX2_takesMinutes wsX2_goesOn := goodIn_r _ [12, 13, 14, 15, 16, 17, 18] (by decide +kernel) (by decide +kernel)
set_option maxRecDepth 20000 in
theorem gX2_takesMinutes_X2_goesOn : GoodIn wsX2_takesMinutes (wsV RX2 34 RX2 yX2_goesOn wsX2_goesOn) := goodIn_app (goodIn_of _ (by decide +kernel)) ggX2_takesMinutes_X2_goesOn
theorem dX2_takesMinutes_0 : decode cX2_takesMinutes 0 = .ok (.iload_n 1, 1) := by decide +kernel
theorem dX2_takesMinutes_1 : decode cX2_takesMinutes 1 = .ok (.invokestatic 51, 3) := by decide +kernel
theorem dX2_takesMinutes_4 : decode cX2_takesMinutes 4 = .ok (.ifCond .eq 16, 3) := by decide +kernel
theorem dX2_takesMinutes_7 : decode cX2_takesMinutes 7 = .ok (.aload_n 0, 1) := by decide +kernel
theorem dX2_takesMinutes_8 : decode cX2_takesMinutes 8 = .ok (.bipush 10, 2) := by decide +kernel
theorem dX2_takesMinutes_10 : decode cX2_takesMinutes 10 = .ok (.iload_n 2, 1) := by decide +kernel
theorem dX2_takesMinutes_11 : decode cX2_takesMinutes 11 = .ok (.imul, 1) := by decide +kernel
theorem dX2_takesMinutes_12 : decode cX2_takesMinutes 12 = .ok (.iload_n 1, 1) := by decide +kernel
theorem dX2_takesMinutes_13 : decode cX2_takesMinutes 13 = .ok (.iadd, 1) := by decide +kernel
theorem dX2_takesMinutes_14 : decode cX2_takesMinutes 14 = .ok (.bipush 48, 2) := by decide +kernel
theorem dX2_takesMinutes_16 : decode cX2_takesMinutes 16 = .ok (.isub, 1) := by decide +kernel
theorem dX2_takesMinutes_17 : decode cX2_takesMinutes 17 = .ok (.putfield 21, 3) := by decide +kernel
theorem dX2_takesMinutes_20 : decode cX2_takesMinutes 20 = .ok (.aload_n 0, 1) := by decide +kernel
theorem dX2_takesMinutes_21 : decode cX2_takesMinutes 21 = .ok (.iload_n 1, 1) := by decide +kernel
theorem dX2_takesMinutes_22 : decode cX2_takesMinutes 22 = .ok (.invokestatic 51, 3) := by decide +kernel
theorem dX2_takesMinutes_25 : decode cX2_takesMinutes 25 = .ok (.iload_n 3, 1) := by decide +kernel
theorem dX2_takesMinutes_26 : decode cX2_takesMinutes 26 = .ok (.invokevirtual 34, 3) := by decide +kernel
theorem dX2_takesMinutes_29 : decode cX2_takesMinutes 29 = .ok (.ireturn, 1) := by decide +kernel
set_option maxRecDepth 20000 in
theorem ggX2_takesAfterMinutes_X2_goesOn : GoodIn wsX2_takesAfterMinutes wsX2_goesOn := goodIn_r _ [5, 6, 12, 13, 14, 15, 16] (by decide +kernel) (by decide +kernel)
set_option maxRecDepth 20000 in
theorem gX2_takesAfterMinutes_X2_goesOn : GoodIn wsX2_takesAfterMinutes (wsV RX2 34 RX2 yX2_goesOn wsX2_goesOn) := goodIn_app (goodIn_of _ (by decide +kernel)) ggX2_takesAfterMinutes_X2_goesOn
set_option maxRecDepth 20000 in
theorem ggX2_takesAfterMinutes_X2_takesComma : GoodIn wsX2_takesAfterMinutes wsX2_takesComma := goodIn_r _ [10, 11, 1, 2, 3, 4, 5, 6, 12, 13, 14, 15, 16] (by decide +kernel) (by decide +kernel)
set_option maxRecDepth 20000 in
theorem gX2_takesAfterMinutes_X2_takesComma : GoodIn wsX2_takesAfterMinutes (wsV RX2 48 RX2 yX2_takesComma wsX2_takesComma) := goodIn_app (goodIn_of _ (by decide +kernel)) ggX2_takesAfterMinutes_X2_takesComma
theorem dX2_takesAfterMinutes_0 : decode cX2_takesAfterMinutes 0 = .ok (.aload_n 0, 1) := by decide +kernel
theorem dX2_takesAfterMinutes_1 : decode cX2_takesAfterMinutes 1 = .ok (.iload_n 1, 1) := by decide +kernel
theorem dX2_takesAfterMinutes_2 : decode cX2_takesAfterMinutes 2 = .ok (.bipush 119, 2) := by decide +kernel
theorem dX2_takesAfterMinutes_4 : decode cX2_takesAfterMinutes 4 = .ok (.if_icmp .ne 7, 3) := by decide +kernel
theorem dX2_takesAfterMinutes_7 : decode cX2_takesAfterMinutes 7 = .ok (.iconst 1, 1) := by decide +kernel
theorem dX2_takesAfterMinutes_8 : decode cX2_takesAfterMinutes 8 = .ok (.goto 4, 3) := by decide +kernel
theorem dX2_takesAfterMinutes_11 : decode cX2_takesAfterMinutes 11 = .ok (.iconst 0, 1) := by decide +kernel
theorem dX2_takesAfterMinutes_12 : decode cX2_takesAfterMinutes 12 = .ok (.bipush 6, 2) := by decide +kernel
theorem dX2_takesAfterMinutes_14 : decode cX2_takesAfterMinutes 14 = .ok (.invokevirtual 34, 3) := by decide +kernel
theorem dX2_takesAfterMinutes_17 : decode cX2_takesAfterMinutes 17 = .ok (.ifCond .ne 11, 3) := by decide +kernel
theorem dX2_takesAfterMinutes_20 : decode cX2_takesAfterMinutes 20 = .ok (.aload_n 0, 1) := by decide +kernel
theorem dX2_takesAfterMinutes_21 : decode cX2_takesAfterMinutes 21 = .ok (.iload_n 1, 1) := by decide +kernel
theorem dX2_takesAfterMinutes_22 : decode cX2_takesAfterMinutes 22 = .ok (.invokevirtual 48, 3) := by decide +kernel
theorem dX2_takesAfterMinutes_25 : decode cX2_takesAfterMinutes 25 = .ok (.ifCond .eq 7, 3) := by decide +kernel
theorem dX2_takesAfterMinutes_28 : decode cX2_takesAfterMinutes 28 = .ok (.iconst 1, 1) := by decide +kernel
theorem dX2_takesAfterMinutes_29 : decode cX2_takesAfterMinutes 29 = .ok (.goto 4, 3) := by decide +kernel
theorem dX2_takesAfterMinutes_32 : decode cX2_takesAfterMinutes 32 = .ok (.iconst 0, 1) := by decide +kernel
theorem dX2_takesAfterMinutes_33 : decode cX2_takesAfterMinutes 33 = .ok (.ireturn, 1) := by decide +kernel
set_option maxRecDepth 20000 in
theorem ggX2_takesWitness_X2_isDigit : GoodIn wsX2_takesWitness wsX2_isDigit := goodIn_r _ [6, 7, 8, 9] (by decide +kernel) (by decide +kernel)
set_option maxRecDepth 20000 in
theorem gX2_takesWitness_X2_isDigit : GoodIn wsX2_takesWitness (va_wsS RX2 51 yX2_isDigit wsX2_isDigit) := goodIn_app (goodIn_of _ (by decide +kernel)) ggX2_takesWitness_X2_isDigit
set_option maxRecDepth 20000 in
theorem ggX2_takesWitness_X2_goesOn : GoodIn wsX2_takesWitness wsX2_goesOn := goodIn_r _ [13, 14, 15, 16, 17, 18, 19] (by decide +kernel) (by decide +kernel)
set_option maxRecDepth 20000 in
theorem gX2_takesWitness_X2_goesOn : GoodIn wsX2_takesWitness (wsV RX2 34 RX2 yX2_goesOn wsX2_goesOn) := goodIn_app (goodIn_of _ (by decide +kernel)) ggX2_takesWitness_X2_goesOn
theorem dX2_takesWitness_0 : decode cX2_takesWitness 0 = .ok (.iload_n 1, 1) := by decide +kernel
theorem dX2_takesWitness_1 : decode cX2_takesWitness 1 = .ok (.invokestatic 51, 3) := by decide +kernel
theorem dX2_takesWitness_4 : decode cX2_takesWitness 4 = .ok (.ifCond .eq 18, 3) := by decide +kernel
theorem dX2_takesWitness_7 : decode cX2_takesWitness 7 = .ok (.iload_n 1, 1) := by decide +kernel
theorem dX2_takesWitness_8 : decode cX2_takesWitness 8 = .ok (.bipush 48, 2) := by decide +kernel
theorem dX2_takesWitness_10 : decode cX2_takesWitness 10 = .ok (.isub, 1) := by decide +kernel
theorem dX2_takesWitness_11 : decode cX2_takesWitness 11 = .ok (.aload_n 0, 1) := by decide +kernel
theorem dX2_takesWitness_12 : decode cX2_takesWitness 12 = .ok (.getfield 15, 3) := by decide +kernel
theorem dX2_takesWitness_15 : decode cX2_takesWitness 15 = .ok (.if_icmp .eq 7, 3) := by decide +kernel
theorem dX2_takesWitness_18 : decode cX2_takesWitness 18 = .ok (.iconst 1, 1) := by decide +kernel
theorem dX2_takesWitness_19 : decode cX2_takesWitness 19 = .ok (.goto 4, 3) := by decide +kernel
theorem dX2_takesWitness_22 : decode cX2_takesWitness 22 = .ok (.iconst 0, 1) := by decide +kernel
theorem dX2_takesWitness_23 : decode cX2_takesWitness 23 = .ok (.istore_n 2, 1) := by decide +kernel
theorem dX2_takesWitness_24 : decode cX2_takesWitness 24 = .ok (.iload_n 2, 1) := by decide +kernel
theorem dX2_takesWitness_25 : decode cX2_takesWitness 25 = .ok (.ifCond .eq 11, 3) := by decide +kernel
theorem dX2_takesWitness_28 : decode cX2_takesWitness 28 = .ok (.aload_n 0, 1) := by decide +kernel
theorem dX2_takesWitness_29 : decode cX2_takesWitness 29 = .ok (.iload_n 1, 1) := by decide +kernel
theorem dX2_takesWitness_30 : decode cX2_takesWitness 30 = .ok (.bipush 48, 2) := by decide +kernel
theorem dX2_takesWitness_32 : decode cX2_takesWitness 32 = .ok (.isub, 1) := by decide +kernel
theorem dX2_takesWitness_33 : decode cX2_takesWitness 33 = .ok (.putfield 24, 3) := by decide +kernel
theorem dX2_takesWitness_36 : decode cX2_takesWitness 36 = .ok (.aload_n 0, 1) := by decide +kernel
theorem dX2_takesWitness_37 : decode cX2_takesWitness 37 = .ok (.iload_n 2, 1) := by decide +kernel
theorem dX2_takesWitness_38 : decode cX2_takesWitness 38 = .ok (.bipush 7, 2) := by decide +kernel
theorem dX2_takesWitness_40 : decode cX2_takesWitness 40 = .ok (.invokevirtual 34, 3) := by decide +kernel
theorem dX2_takesWitness_43 : decode cX2_takesWitness 43 = .ok (.ireturn, 1) := by decide +kernel
set_option maxRecDepth 20000 in
theorem ggX2_takesComma_X2_goesOn : GoodIn wsX2_takesComma wsX2_goesOn := goodIn_r _ [6, 7, 8, 9, 10, 11, 12] (by decide +kernel) (by decide +kernel)
set_option maxRecDepth 20000 in
theorem gX2_takesComma_X2_goesOn : GoodIn wsX2_takesComma (wsV RX2 34 RX2 yX2_goesOn wsX2_goesOn) := goodIn_app (goodIn_of _ (by decide +kernel)) ggX2_takesComma_X2_goesOn
theorem dX2_takesComma_0 : decode cX2_takesComma 0 = .ok (.iload_n 1, 1) := by decide +kernel
theorem dX2_takesComma_1 : decode cX2_takesComma 1 = .ok (.bipush 44, 2) := by decide +kernel
theorem dX2_takesComma_3 : decode cX2_takesComma 3 = .ok (.if_icmp .ne 9, 3) := by decide +kernel
theorem dX2_takesComma_6 : decode cX2_takesComma 6 = .ok (.aload_n 0, 1) := by decide +kernel
theorem dX2_takesComma_7 : decode cX2_takesComma 7 = .ok (.bipush (-6), 2) := by decide +kernel
theorem dX2_takesComma_9 : decode cX2_takesComma 9 = .ok (.putfield 24, 3) := by decide +kernel
theorem dX2_takesComma_12 : decode cX2_takesComma 12 = .ok (.aload_n 0, 1) := by decide +kernel
theorem dX2_takesComma_13 : decode cX2_takesComma 13 = .ok (.iload_n 1, 1) := by decide +kernel
theorem dX2_takesComma_14 : decode cX2_takesComma 14 = .ok (.bipush 44, 2) := by decide +kernel
theorem dX2_takesComma_16 : decode cX2_takesComma 16 = .ok (.if_icmp .ne 7, 3) := by decide +kernel
theorem dX2_takesComma_19 : decode cX2_takesComma 19 = .ok (.iconst 1, 1) := by decide +kernel
theorem dX2_takesComma_20 : decode cX2_takesComma 20 = .ok (.goto 4, 3) := by decide +kernel
theorem dX2_takesComma_23 : decode cX2_takesComma 23 = .ok (.iconst 0, 1) := by decide +kernel
theorem dX2_takesComma_24 : decode cX2_takesComma 24 = .ok (.iconst 0, 1) := by decide +kernel
theorem dX2_takesComma_25 : decode cX2_takesComma 25 = .ok (.invokevirtual 34, 3) := by decide +kernel
theorem dX2_takesComma_28 : decode cX2_takesComma 28 = .ok (.ireturn, 1) := by decide +kernel
set_option maxRecDepth 20000 in
theorem ggX2_isDigit_X4_isWithin : GoodIn wsX2_isDigit wsX4_isWithin := goodIn_r _ [3] (by decide +kernel) (by decide +kernel)
set_option maxRecDepth 20000 in
theorem gX2_isDigit_X4_isWithin_n54 : GoodIn wsX2_isDigit (wsX4_isWithin) := ggX2_isDigit_X4_isWithin
theorem dX2_isDigit_0 : decode cX2_isDigit 0 = .ok (.iload_n 0, 1) := by decide +kernel
theorem dX2_isDigit_1 : decode cX2_isDigit 1 = .ok (.bipush 48, 2) := by decide +kernel
theorem dX2_isDigit_3 : decode cX2_isDigit 3 = .ok (.bipush 57, 2) := by decide +kernel
theorem dX2_isDigit_5 : decode cX2_isDigit 5 = .ok (.invokestatic 54, 3) := by decide +kernel
theorem dX2_isDigit_8 : decode cX2_isDigit 8 = .ok (.ireturn, 1) := by decide +kernel
theorem inlX3 : ∀ w ∈ wsX30, w ∈ wsL_law := fun _ h => List.mem_append_left _ (List.mem_append_left _ (List.mem_append_left _ (List.mem_append_left _ (List.mem_append_right _ h))))
set_option maxRecDepth 20000 in
theorem ggX3_init_X4_copy : GoodIn wsX3_init wsX4_copy := goodIn_r _ [22, 23, 24, 25, 26, 27, 28, 29, 30] (by decide +kernel) (by decide +kernel)
set_option maxRecDepth 20000 in
theorem gX3_init_X4_copy_n61 : GoodIn wsX3_init (wsX4_copy) := ggX3_init_X4_copy
theorem dX3_init_0 : decode cX3_init 0 = .ok (.aload_n 0, 1) := by decide +kernel
theorem dX3_init_1 : decode cX3_init 1 = .ok (.invokespecial 3, 3) := by decide +kernel
theorem dX3_init_4 : decode cX3_init 4 = .ok (.aload_n 0, 1) := by decide +kernel
theorem dX3_init_5 : decode cX3_init 5 = .ok (.getstatic 9, 3) := by decide +kernel
theorem dX3_init_8 : decode cX3_init 8 = .ok (.arraylength, 1) := by decide +kernel
theorem dX3_init_9 : decode cX3_init 9 = .ok (.newarray .int, 2) := by decide +kernel
theorem dX3_init_11 : decode cX3_init 11 = .ok (.putfield 13, 3) := by decide +kernel
theorem dX3_init_14 : decode cX3_init 14 = .ok (.aload_n 0, 1) := by decide +kernel
theorem dX3_init_15 : decode cX3_init 15 = .ok (.iconst 0, 1) := by decide +kernel
theorem dX3_init_16 : decode cX3_init 16 = .ok (.putfield 18, 3) := by decide +kernel
theorem dX3_init_19 : decode cX3_init 19 = .ok (.aload_n 0, 1) := by decide +kernel
theorem dX3_init_20 : decode cX3_init 20 = .ok (.bipush 12, 2) := by decide +kernel
theorem dX3_init_22 : decode cX3_init 22 = .ok (.newarray .int, 2) := by decide +kernel
theorem dX3_init_24 : decode cX3_init 24 = .ok (.putfield 22, 3) := by decide +kernel
theorem dX3_init_27 : decode cX3_init 27 = .ok (.aload_n 0, 1) := by decide +kernel
theorem dX3_init_28 : decode cX3_init 28 = .ok (.bipush 12, 2) := by decide +kernel
theorem dX3_init_30 : decode cX3_init 30 = .ok (.newarray .int, 2) := by decide +kernel
theorem dX3_init_32 : decode cX3_init 32 = .ok (.putfield 25, 3) := by decide +kernel
theorem dX3_init_35 : decode cX3_init 35 = .ok (.aload_n 0, 1) := by decide +kernel
theorem dX3_init_36 : decode cX3_init 36 = .ok (.bipush 12, 2) := by decide +kernel
theorem dX3_init_38 : decode cX3_init 38 = .ok (.newarray .int, 2) := by decide +kernel
theorem dX3_init_40 : decode cX3_init 40 = .ok (.putfield 28, 3) := by decide +kernel
theorem dX3_init_43 : decode cX3_init 43 = .ok (.aload_n 0, 1) := by decide +kernel
theorem dX3_init_44 : decode cX3_init 44 = .ok (.bipush 120, 2) := by decide +kernel
theorem dX3_init_46 : decode cX3_init 46 = .ok (.newarray .int, 2) := by decide +kernel
theorem dX3_init_48 : decode cX3_init 48 = .ok (.putfield 31, 3) := by decide +kernel
theorem dX3_init_51 : decode cX3_init 51 = .ok (.aload_n 0, 1) := by decide +kernel
theorem dX3_init_52 : decode cX3_init 52 = .ok (.bipush 10, 2) := by decide +kernel
theorem dX3_init_54 : decode cX3_init 54 = .ok (.newarray .int, 2) := by decide +kernel
theorem dX3_init_56 : decode cX3_init 56 = .ok (.putfield 34, 3) := by decide +kernel
theorem dX3_init_59 : decode cX3_init 59 = .ok (.aload_n 0, 1) := by decide +kernel
theorem dX3_init_60 : decode cX3_init 60 = .ok (.bipush 10, 2) := by decide +kernel
theorem dX3_init_62 : decode cX3_init 62 = .ok (.newarray .int, 2) := by decide +kernel
theorem dX3_init_64 : decode cX3_init 64 = .ok (.putfield 37, 3) := by decide +kernel
theorem dX3_init_67 : decode cX3_init 67 = .ok (.aload_n 0, 1) := by decide +kernel
theorem dX3_init_68 : decode cX3_init 68 = .ok (.bipush 10, 2) := by decide +kernel
theorem dX3_init_70 : decode cX3_init 70 = .ok (.newarray .int, 2) := by decide +kernel
theorem dX3_init_72 : decode cX3_init 72 = .ok (.putfield 40, 3) := by decide +kernel
theorem dX3_init_75 : decode cX3_init 75 = .ok (.aload_n 0, 1) := by decide +kernel
theorem dX3_init_76 : decode cX3_init 76 = .ok (.bipush 10, 2) := by decide +kernel
theorem dX3_init_78 : decode cX3_init 78 = .ok (.newarray .int, 2) := by decide +kernel
theorem dX3_init_80 : decode cX3_init 80 = .ok (.putfield 43, 3) := by decide +kernel
theorem dX3_init_83 : decode cX3_init 83 = .ok (.aload_n 0, 1) := by decide +kernel
theorem dX3_init_84 : decode cX3_init 84 = .ok (.bipush 10, 2) := by decide +kernel
theorem dX3_init_86 : decode cX3_init 86 = .ok (.newarray .int, 2) := by decide +kernel
theorem dX3_init_88 : decode cX3_init 88 = .ok (.putfield 46, 3) := by decide +kernel
theorem dX3_init_91 : decode cX3_init 91 = .ok (.aload_n 0, 1) := by decide +kernel
theorem dX3_init_92 : decode cX3_init 92 = .ok (.bipush 10, 2) := by decide +kernel
theorem dX3_init_94 : decode cX3_init 94 = .ok (.newarray .int, 2) := by decide +kernel
theorem dX3_init_96 : decode cX3_init 96 = .ok (.putfield 49, 3) := by decide +kernel
theorem dX3_init_99 : decode cX3_init 99 = .ok (.aload_n 0, 1) := by decide +kernel
theorem dX3_init_100 : decode cX3_init 100 = .ok (.iconst 5, 1) := by decide +kernel
theorem dX3_init_101 : decode cX3_init 101 = .ok (.newarray .int, 2) := by decide +kernel
theorem dX3_init_103 : decode cX3_init 103 = .ok (.putfield 52, 3) := by decide +kernel
theorem dX3_init_106 : decode cX3_init 106 = .ok (.aload_n 0, 1) := by decide +kernel
theorem dX3_init_107 : decode cX3_init 107 = .ok (.iconst 5, 1) := by decide +kernel
theorem dX3_init_108 : decode cX3_init 108 = .ok (.newarray .int, 2) := by decide +kernel
theorem dX3_init_110 : decode cX3_init 110 = .ok (.putfield 55, 3) := by decide +kernel
theorem dX3_init_113 : decode cX3_init 113 = .ok (.aload_n 0, 1) := by decide +kernel
theorem dX3_init_114 : decode cX3_init 114 = .ok (.iconst 0, 1) := by decide +kernel
theorem dX3_init_115 : decode cX3_init 115 = .ok (.putfield 58, 3) := by decide +kernel
theorem dX3_init_118 : decode cX3_init 118 = .ok (.getstatic 9, 3) := by decide +kernel
theorem dX3_init_121 : decode cX3_init 121 = .ok (.aload_n 0, 1) := by decide +kernel
theorem dX3_init_122 : decode cX3_init 122 = .ok (.getfield 13, 3) := by decide +kernel
theorem dX3_init_125 : decode cX3_init 125 = .ok (.invokestatic 61, 3) := by decide +kernel
theorem dX3_init_128 : decode cX3_init 128 = .ok (.iconst 0, 1) := by decide +kernel
theorem dX3_init_129 : decode cX3_init 129 = .ok (.istore_n 1, 1) := by decide +kernel
theorem dX3_init_130 : decode cX3_init 130 = .ok (.iload_n 1, 1) := by decide +kernel
theorem dX3_init_131 : decode cX3_init 131 = .ok (.bipush 10, 2) := by decide +kernel
theorem dX3_init_133 : decode cX3_init 133 = .ok (.if_icmp .ge 24, 3) := by decide +kernel
theorem dX3_init_136 : decode cX3_init 136 = .ok (.aload_n 0, 1) := by decide +kernel
theorem dX3_init_137 : decode cX3_init 137 = .ok (.getfield 34, 3) := by decide +kernel
theorem dX3_init_140 : decode cX3_init 140 = .ok (.iload_n 1, 1) := by decide +kernel
theorem dX3_init_141 : decode cX3_init 141 = .ok (.iconst 5, 1) := by decide +kernel
theorem dX3_init_142 : decode cX3_init 142 = .ok (.iastore, 1) := by decide +kernel
theorem dX3_init_143 : decode cX3_init 143 = .ok (.aload_n 0, 1) := by decide +kernel
theorem dX3_init_144 : decode cX3_init 144 = .ok (.getfield 49, 3) := by decide +kernel
theorem dX3_init_147 : decode cX3_init 147 = .ok (.iload_n 1, 1) := by decide +kernel
theorem dX3_init_148 : decode cX3_init 148 = .ok (.bipush (-6), 2) := by decide +kernel
theorem dX3_init_150 : decode cX3_init 150 = .ok (.iastore, 1) := by decide +kernel
theorem dX3_init_151 : decode cX3_init 151 = .ok (.iinc 1 1, 3) := by decide +kernel
theorem dX3_init_154 : decode cX3_init 154 = .ok (.goto (-24), 3) := by decide +kernel
theorem dX3_init_157 : decode cX3_init 157 = .ok (.return_, 1) := by decide +kernel
set_option maxRecDepth 20000 in
theorem ggX3_become_X4_copy : GoodIn wsX3_become wsX4_copy := goodIn_r _ [18, 19, 20, 21, 22, 23, 24, 25, 26] (by decide +kernel) (by decide +kernel)
set_option maxRecDepth 20000 in
theorem gX3_become_X4_copy_n61 : GoodIn wsX3_become (wsX4_copy) := ggX3_become_X4_copy
theorem dX3_become_0 : decode cX3_become 0 = .ok (.aload_n 1, 1) := by decide +kernel
theorem dX3_become_1 : decode cX3_become 1 = .ok (.getfield 13, 3) := by decide +kernel
theorem dX3_become_4 : decode cX3_become 4 = .ok (.aload_n 0, 1) := by decide +kernel
theorem dX3_become_5 : decode cX3_become 5 = .ok (.getfield 13, 3) := by decide +kernel
theorem dX3_become_8 : decode cX3_become 8 = .ok (.invokestatic 61, 3) := by decide +kernel
theorem dX3_become_11 : decode cX3_become 11 = .ok (.aload_n 0, 1) := by decide +kernel
theorem dX3_become_12 : decode cX3_become 12 = .ok (.aload_n 1, 1) := by decide +kernel
theorem dX3_become_13 : decode cX3_become 13 = .ok (.getfield 18, 3) := by decide +kernel
theorem dX3_become_16 : decode cX3_become 16 = .ok (.putfield 18, 3) := by decide +kernel
theorem dX3_become_19 : decode cX3_become 19 = .ok (.aload_n 1, 1) := by decide +kernel
theorem dX3_become_20 : decode cX3_become 20 = .ok (.getfield 22, 3) := by decide +kernel
theorem dX3_become_23 : decode cX3_become 23 = .ok (.aload_n 0, 1) := by decide +kernel
theorem dX3_become_24 : decode cX3_become 24 = .ok (.getfield 22, 3) := by decide +kernel
theorem dX3_become_27 : decode cX3_become 27 = .ok (.invokestatic 61, 3) := by decide +kernel
theorem dX3_become_30 : decode cX3_become 30 = .ok (.aload_n 1, 1) := by decide +kernel
theorem dX3_become_31 : decode cX3_become 31 = .ok (.getfield 25, 3) := by decide +kernel
theorem dX3_become_34 : decode cX3_become 34 = .ok (.aload_n 0, 1) := by decide +kernel
theorem dX3_become_35 : decode cX3_become 35 = .ok (.getfield 25, 3) := by decide +kernel
theorem dX3_become_38 : decode cX3_become 38 = .ok (.invokestatic 61, 3) := by decide +kernel
theorem dX3_become_41 : decode cX3_become 41 = .ok (.aload_n 1, 1) := by decide +kernel
theorem dX3_become_42 : decode cX3_become 42 = .ok (.getfield 28, 3) := by decide +kernel
theorem dX3_become_45 : decode cX3_become 45 = .ok (.aload_n 0, 1) := by decide +kernel
theorem dX3_become_46 : decode cX3_become 46 = .ok (.getfield 28, 3) := by decide +kernel
theorem dX3_become_49 : decode cX3_become 49 = .ok (.invokestatic 61, 3) := by decide +kernel
theorem dX3_become_52 : decode cX3_become 52 = .ok (.aload_n 1, 1) := by decide +kernel
theorem dX3_become_53 : decode cX3_become 53 = .ok (.getfield 31, 3) := by decide +kernel
theorem dX3_become_56 : decode cX3_become 56 = .ok (.aload_n 0, 1) := by decide +kernel
theorem dX3_become_57 : decode cX3_become 57 = .ok (.getfield 31, 3) := by decide +kernel
theorem dX3_become_60 : decode cX3_become 60 = .ok (.invokestatic 61, 3) := by decide +kernel
theorem dX3_become_63 : decode cX3_become 63 = .ok (.aload_n 1, 1) := by decide +kernel
theorem dX3_become_64 : decode cX3_become 64 = .ok (.getfield 34, 3) := by decide +kernel
theorem dX3_become_67 : decode cX3_become 67 = .ok (.aload_n 0, 1) := by decide +kernel
theorem dX3_become_68 : decode cX3_become 68 = .ok (.getfield 34, 3) := by decide +kernel
theorem dX3_become_71 : decode cX3_become 71 = .ok (.invokestatic 61, 3) := by decide +kernel
theorem dX3_become_74 : decode cX3_become 74 = .ok (.aload_n 1, 1) := by decide +kernel
theorem dX3_become_75 : decode cX3_become 75 = .ok (.getfield 37, 3) := by decide +kernel
theorem dX3_become_78 : decode cX3_become 78 = .ok (.aload_n 0, 1) := by decide +kernel
theorem dX3_become_79 : decode cX3_become 79 = .ok (.getfield 37, 3) := by decide +kernel
theorem dX3_become_82 : decode cX3_become 82 = .ok (.invokestatic 61, 3) := by decide +kernel
theorem dX3_become_85 : decode cX3_become 85 = .ok (.aload_n 1, 1) := by decide +kernel
theorem dX3_become_86 : decode cX3_become 86 = .ok (.getfield 40, 3) := by decide +kernel
theorem dX3_become_89 : decode cX3_become 89 = .ok (.aload_n 0, 1) := by decide +kernel
theorem dX3_become_90 : decode cX3_become 90 = .ok (.getfield 40, 3) := by decide +kernel
theorem dX3_become_93 : decode cX3_become 93 = .ok (.invokestatic 61, 3) := by decide +kernel
theorem dX3_become_96 : decode cX3_become 96 = .ok (.aload_n 1, 1) := by decide +kernel
theorem dX3_become_97 : decode cX3_become 97 = .ok (.getfield 43, 3) := by decide +kernel
theorem dX3_become_100 : decode cX3_become 100 = .ok (.aload_n 0, 1) := by decide +kernel
theorem dX3_become_101 : decode cX3_become 101 = .ok (.getfield 43, 3) := by decide +kernel
theorem dX3_become_104 : decode cX3_become 104 = .ok (.invokestatic 61, 3) := by decide +kernel
theorem dX3_become_107 : decode cX3_become 107 = .ok (.aload_n 1, 1) := by decide +kernel
theorem dX3_become_108 : decode cX3_become 108 = .ok (.getfield 46, 3) := by decide +kernel
theorem dX3_become_111 : decode cX3_become 111 = .ok (.aload_n 0, 1) := by decide +kernel
theorem dX3_become_112 : decode cX3_become 112 = .ok (.getfield 46, 3) := by decide +kernel
theorem dX3_become_115 : decode cX3_become 115 = .ok (.invokestatic 61, 3) := by decide +kernel
theorem dX3_become_118 : decode cX3_become 118 = .ok (.aload_n 1, 1) := by decide +kernel
theorem dX3_become_119 : decode cX3_become 119 = .ok (.getfield 49, 3) := by decide +kernel
theorem dX3_become_122 : decode cX3_become 122 = .ok (.aload_n 0, 1) := by decide +kernel
theorem dX3_become_123 : decode cX3_become 123 = .ok (.getfield 49, 3) := by decide +kernel
theorem dX3_become_126 : decode cX3_become 126 = .ok (.invokestatic 61, 3) := by decide +kernel
theorem dX3_become_129 : decode cX3_become 129 = .ok (.aload_n 1, 1) := by decide +kernel
theorem dX3_become_130 : decode cX3_become 130 = .ok (.getfield 52, 3) := by decide +kernel
theorem dX3_become_133 : decode cX3_become 133 = .ok (.aload_n 0, 1) := by decide +kernel
theorem dX3_become_134 : decode cX3_become 134 = .ok (.getfield 52, 3) := by decide +kernel
theorem dX3_become_137 : decode cX3_become 137 = .ok (.invokestatic 61, 3) := by decide +kernel
theorem dX3_become_140 : decode cX3_become 140 = .ok (.aload_n 1, 1) := by decide +kernel
theorem dX3_become_141 : decode cX3_become 141 = .ok (.getfield 55, 3) := by decide +kernel
theorem dX3_become_144 : decode cX3_become 144 = .ok (.aload_n 0, 1) := by decide +kernel
theorem dX3_become_145 : decode cX3_become 145 = .ok (.getfield 55, 3) := by decide +kernel
theorem dX3_become_148 : decode cX3_become 148 = .ok (.invokestatic 61, 3) := by decide +kernel
theorem dX3_become_151 : decode cX3_become 151 = .ok (.aload_n 0, 1) := by decide +kernel
theorem dX3_become_152 : decode cX3_become 152 = .ok (.aload_n 1, 1) := by decide +kernel
theorem dX3_become_153 : decode cX3_become 153 = .ok (.getfield 58, 3) := by decide +kernel
theorem dX3_become_156 : decode cX3_become 156 = .ok (.putfield 58, 3) := by decide +kernel
theorem dX3_become_159 : decode cX3_become 159 = .ok (.return_, 1) := by decide +kernel
theorem dX3_hasExcuse_0 : decode cX3_hasExcuse 0 = .ok (.iload_n 1, 1) := by decide +kernel
theorem dX3_hasExcuse_1 : decode cX3_hasExcuse 1 = .ok (.ifCond .lt 15, 3) := by decide +kernel
theorem dX3_hasExcuse_4 : decode cX3_hasExcuse 4 = .ok (.iload_n 1, 1) := by decide +kernel
theorem dX3_hasExcuse_5 : decode cX3_hasExcuse 5 = .ok (.aload_n 0, 1) := by decide +kernel
theorem dX3_hasExcuse_6 : decode cX3_hasExcuse 6 = .ok (.getfield 18, 3) := by decide +kernel
theorem dX3_hasExcuse_9 : decode cX3_hasExcuse 9 = .ok (.if_icmp .ge 7, 3) := by decide +kernel
theorem dX3_hasExcuse_12 : decode cX3_hasExcuse 12 = .ok (.iconst 1, 1) := by decide +kernel
theorem dX3_hasExcuse_13 : decode cX3_hasExcuse 13 = .ok (.goto 4, 3) := by decide +kernel
theorem dX3_hasExcuse_16 : decode cX3_hasExcuse 16 = .ok (.iconst 0, 1) := by decide +kernel
theorem dX3_hasExcuse_17 : decode cX3_hasExcuse 17 = .ok (.ireturn, 1) := by decide +kernel
theorem dX3_addExcuse_0 : decode cX3_addExcuse 0 = .ok (.aload_n 0, 1) := by decide +kernel
theorem dX3_addExcuse_1 : decode cX3_addExcuse 1 = .ok (.getfield 22, 3) := by decide +kernel
theorem dX3_addExcuse_4 : decode cX3_addExcuse 4 = .ok (.aload_n 0, 1) := by decide +kernel
theorem dX3_addExcuse_5 : decode cX3_addExcuse 5 = .ok (.getfield 18, 3) := by decide +kernel
theorem dX3_addExcuse_8 : decode cX3_addExcuse 8 = .ok (.iload_n 1, 1) := by decide +kernel
theorem dX3_addExcuse_9 : decode cX3_addExcuse 9 = .ok (.iastore, 1) := by decide +kernel
theorem dX3_addExcuse_10 : decode cX3_addExcuse 10 = .ok (.aload_n 0, 1) := by decide +kernel
theorem dX3_addExcuse_11 : decode cX3_addExcuse 11 = .ok (.getfield 25, 3) := by decide +kernel
theorem dX3_addExcuse_14 : decode cX3_addExcuse 14 = .ok (.aload_n 0, 1) := by decide +kernel
theorem dX3_addExcuse_15 : decode cX3_addExcuse 15 = .ok (.getfield 18, 3) := by decide +kernel
theorem dX3_addExcuse_18 : decode cX3_addExcuse 18 = .ok (.iload_n 2, 1) := by decide +kernel
theorem dX3_addExcuse_19 : decode cX3_addExcuse 19 = .ok (.iastore, 1) := by decide +kernel
theorem dX3_addExcuse_20 : decode cX3_addExcuse 20 = .ok (.aload_n 0, 1) := by decide +kernel
theorem dX3_addExcuse_21 : decode cX3_addExcuse 21 = .ok (.dup, 1) := by decide +kernel
theorem dX3_addExcuse_22 : decode cX3_addExcuse 22 = .ok (.getfield 18, 3) := by decide +kernel
theorem dX3_addExcuse_25 : decode cX3_addExcuse 25 = .ok (.iconst 1, 1) := by decide +kernel
theorem dX3_addExcuse_26 : decode cX3_addExcuse 26 = .ok (.iadd, 1) := by decide +kernel
theorem dX3_addExcuse_27 : decode cX3_addExcuse 27 = .ok (.putfield 18, 3) := by decide +kernel
theorem dX3_addExcuse_30 : decode cX3_addExcuse 30 = .ok (.aload_n 0, 1) := by decide +kernel
theorem dX3_addExcuse_31 : decode cX3_addExcuse 31 = .ok (.getfield 18, 3) := by decide +kernel
theorem dX3_addExcuse_34 : decode cX3_addExcuse 34 = .ok (.iconst 1, 1) := by decide +kernel
theorem dX3_addExcuse_35 : decode cX3_addExcuse 35 = .ok (.isub, 1) := by decide +kernel
theorem dX3_addExcuse_36 : decode cX3_addExcuse 36 = .ok (.ireturn, 1) := by decide +kernel
theorem dX3_usesOf_0 : decode cX3_usesOf 0 = .ok (.aload_n 0, 1) := by decide +kernel
theorem dX3_usesOf_1 : decode cX3_usesOf 1 = .ok (.getfield 31, 3) := by decide +kernel
theorem dX3_usesOf_4 : decode cX3_usesOf 4 = .ok (.iload_n 1, 1) := by decide +kernel
theorem dX3_usesOf_5 : decode cX3_usesOf 5 = .ok (.bipush 12, 2) := by decide +kernel
theorem dX3_usesOf_7 : decode cX3_usesOf 7 = .ok (.imul, 1) := by decide +kernel
theorem dX3_usesOf_8 : decode cX3_usesOf 8 = .ok (.iload_n 2, 1) := by decide +kernel
theorem dX3_usesOf_9 : decode cX3_usesOf 9 = .ok (.iadd, 1) := by decide +kernel
theorem dX3_usesOf_10 : decode cX3_usesOf 10 = .ok (.iaload, 1) := by decide +kernel
theorem dX3_usesOf_11 : decode cX3_usesOf 11 = .ok (.ireturn, 1) := by decide +kernel
set_option maxRecDepth 20000 in
theorem ggX3_usesByPupil_X3_usesOf : GoodIn wsX3_usesByPupil wsX3_usesOf := goodIn_r _ [5, 6, 7, 8, 9, 10, 11, 12, 13, 14, 15, 16, 17, 18, 19, 20, 21] (by decide +kernel) (by decide +kernel)
set_option maxRecDepth 20000 in
theorem gX3_usesByPupil_X3_usesOf : GoodIn wsX3_usesByPupil (wsV RX3 65 RX3 yX3_usesOf wsX3_usesOf) := goodIn_app (goodIn_of _ (by decide +kernel)) ggX3_usesByPupil_X3_usesOf
theorem dX3_usesByPupil_0 : decode cX3_usesByPupil 0 = .ok (.iconst 0, 1) := by decide +kernel
theorem dX3_usesByPupil_1 : decode cX3_usesByPupil 1 = .ok (.istore_n 2, 1) := by decide +kernel
theorem dX3_usesByPupil_2 : decode cX3_usesByPupil 2 = .ok (.iconst 0, 1) := by decide +kernel
theorem dX3_usesByPupil_3 : decode cX3_usesByPupil 3 = .ok (.istore_n 3, 1) := by decide +kernel
theorem dX3_usesByPupil_4 : decode cX3_usesByPupil 4 = .ok (.iload_n 3, 1) := by decide +kernel
theorem dX3_usesByPupil_5 : decode cX3_usesByPupil 5 = .ok (.bipush 12, 2) := by decide +kernel
theorem dX3_usesByPupil_7 : decode cX3_usesByPupil 7 = .ok (.if_icmp .ge 18, 3) := by decide +kernel
theorem dX3_usesByPupil_10 : decode cX3_usesByPupil 10 = .ok (.iload_n 2, 1) := by decide +kernel
theorem dX3_usesByPupil_11 : decode cX3_usesByPupil 11 = .ok (.aload_n 0, 1) := by decide +kernel
theorem dX3_usesByPupil_12 : decode cX3_usesByPupil 12 = .ok (.iload_n 1, 1) := by decide +kernel
theorem dX3_usesByPupil_13 : decode cX3_usesByPupil 13 = .ok (.iload_n 3, 1) := by decide +kernel
theorem dX3_usesByPupil_14 : decode cX3_usesByPupil 14 = .ok (.invokevirtual 65, 3) := by decide +kernel
theorem dX3_usesByPupil_17 : decode cX3_usesByPupil 17 = .ok (.iadd, 1) := by decide +kernel
theorem dX3_usesByPupil_18 : decode cX3_usesByPupil 18 = .ok (.istore_n 2, 1) := by decide +kernel
theorem dX3_usesByPupil_19 : decode cX3_usesByPupil 19 = .ok (.iinc 3 1, 3) := by decide +kernel
theorem dX3_usesByPupil_22 : decode cX3_usesByPupil 22 = .ok (.goto (-18), 3) := by decide +kernel
theorem dX3_usesByPupil_25 : decode cX3_usesByPupil 25 = .ok (.iload_n 2, 1) := by decide +kernel
theorem dX3_usesByPupil_26 : decode cX3_usesByPupil 26 = .ok (.ireturn, 1) := by decide +kernel
theorem dX3_usesByClass_0 : decode cX3_usesByClass 0 = .ok (.iconst 2, 1) := by decide +kernel
theorem dX3_usesByClass_1 : decode cX3_usesByClass 1 = .ok (.iload_n 1, 1) := by decide +kernel
theorem dX3_usesByClass_2 : decode cX3_usesByClass 2 = .ok (.imul, 1) := by decide +kernel
theorem dX3_usesByClass_3 : decode cX3_usesByClass 3 = .ok (.bipush 12, 2) := by decide +kernel
theorem dX3_usesByClass_5 : decode cX3_usesByClass 5 = .ok (.imul, 1) := by decide +kernel
theorem dX3_usesByClass_6 : decode cX3_usesByClass 6 = .ok (.iload_n 2, 1) := by decide +kernel
theorem dX3_usesByClass_7 : decode cX3_usesByClass 7 = .ok (.iadd, 1) := by decide +kernel
theorem dX3_usesByClass_8 : decode cX3_usesByClass 8 = .ok (.istore_n 3, 1) := by decide +kernel
theorem dX3_usesByClass_9 : decode cX3_usesByClass 9 = .ok (.aload_n 0, 1) := by decide +kernel
theorem dX3_usesByClass_10 : decode cX3_usesByClass 10 = .ok (.getfield 31, 3) := by decide +kernel
theorem dX3_usesByClass_13 : decode cX3_usesByClass 13 = .ok (.iload_n 3, 1) := by decide +kernel
theorem dX3_usesByClass_14 : decode cX3_usesByClass 14 = .ok (.iaload, 1) := by decide +kernel
theorem dX3_usesByClass_15 : decode cX3_usesByClass 15 = .ok (.aload_n 0, 1) := by decide +kernel
theorem dX3_usesByClass_16 : decode cX3_usesByClass 16 = .ok (.getfield 31, 3) := by decide +kernel
theorem dX3_usesByClass_19 : decode cX3_usesByClass 19 = .ok (.iload_n 3, 1) := by decide +kernel
theorem dX3_usesByClass_20 : decode cX3_usesByClass 20 = .ok (.bipush 12, 2) := by decide +kernel
theorem dX3_usesByClass_22 : decode cX3_usesByClass 22 = .ok (.iadd, 1) := by decide +kernel
theorem dX3_usesByClass_23 : decode cX3_usesByClass 23 = .ok (.iaload, 1) := by decide +kernel
theorem dX3_usesByClass_24 : decode cX3_usesByClass 24 = .ok (.iadd, 1) := by decide +kernel
theorem dX3_usesByClass_25 : decode cX3_usesByClass 25 = .ok (.ireturn, 1) := by decide +kernel
theorem dX3_usesBySchool_0 : decode cX3_usesBySchool 0 = .ok (.iconst 0, 1) := by decide +kernel
theorem dX3_usesBySchool_1 : decode cX3_usesBySchool 1 = .ok (.istore_n 2, 1) := by decide +kernel
theorem dX3_usesBySchool_2 : decode cX3_usesBySchool 2 = .ok (.iload_n 1, 1) := by decide +kernel
theorem dX3_usesBySchool_3 : decode cX3_usesBySchool 3 = .ok (.istore_n 3, 1) := by decide +kernel
theorem dX3_usesBySchool_4 : decode cX3_usesBySchool 4 = .ok (.iload_n 3, 1) := by decide +kernel
theorem dX3_usesBySchool_5 : decode cX3_usesBySchool 5 = .ok (.aload_n 0, 1) := by decide +kernel
theorem dX3_usesBySchool_6 : decode cX3_usesBySchool 6 = .ok (.getfield 31, 3) := by decide +kernel
theorem dX3_usesBySchool_9 : decode cX3_usesBySchool 9 = .ok (.arraylength, 1) := by decide +kernel
theorem dX3_usesBySchool_10 : decode cX3_usesBySchool 10 = .ok (.if_icmp .ge 18, 3) := by decide +kernel
theorem dX3_usesBySchool_13 : decode cX3_usesBySchool 13 = .ok (.iload_n 2, 1) := by decide +kernel
theorem dX3_usesBySchool_14 : decode cX3_usesBySchool 14 = .ok (.aload_n 0, 1) := by decide +kernel
theorem dX3_usesBySchool_15 : decode cX3_usesBySchool 15 = .ok (.getfield 31, 3) := by decide +kernel
theorem dX3_usesBySchool_18 : decode cX3_usesBySchool 18 = .ok (.iload_n 3, 1) := by decide +kernel
theorem dX3_usesBySchool_19 : decode cX3_usesBySchool 19 = .ok (.iaload, 1) := by decide +kernel
theorem dX3_usesBySchool_20 : decode cX3_usesBySchool 20 = .ok (.iadd, 1) := by decide +kernel
theorem dX3_usesBySchool_21 : decode cX3_usesBySchool 21 = .ok (.istore_n 2, 1) := by decide +kernel
theorem dX3_usesBySchool_22 : decode cX3_usesBySchool 22 = .ok (.iinc 3 12, 3) := by decide +kernel
theorem dX3_usesBySchool_25 : decode cX3_usesBySchool 25 = .ok (.goto (-21), 3) := by decide +kernel
theorem dX3_usesBySchool_28 : decode cX3_usesBySchool 28 = .ok (.iload_n 2, 1) := by decide +kernel
theorem dX3_usesBySchool_29 : decode cX3_usesBySchool 29 = .ok (.ireturn, 1) := by decide +kernel
set_option maxRecDepth 20000 in
theorem ggX3_usersOf_X3_usesOf : GoodIn wsX3_usersOf wsX3_usesOf := goodIn_r _ [5, 6, 7, 8, 9, 10, 11, 12, 13, 14, 15, 16, 17, 18, 19, 20, 21] (by decide +kernel) (by decide +kernel)
set_option maxRecDepth 20000 in
theorem gX3_usersOf_X3_usesOf : GoodIn wsX3_usersOf (wsV RX3 65 RX3 yX3_usesOf wsX3_usesOf) := goodIn_app (goodIn_of _ (by decide +kernel)) ggX3_usersOf_X3_usesOf
theorem dX3_usersOf_0 : decode cX3_usersOf 0 = .ok (.iconst 0, 1) := by decide +kernel
theorem dX3_usersOf_1 : decode cX3_usersOf 1 = .ok (.istore_n 2, 1) := by decide +kernel
theorem dX3_usersOf_2 : decode cX3_usersOf 2 = .ok (.iconst 0, 1) := by decide +kernel
theorem dX3_usersOf_3 : decode cX3_usersOf 3 = .ok (.istore_n 3, 1) := by decide +kernel
theorem dX3_usersOf_4 : decode cX3_usersOf 4 = .ok (.iload_n 3, 1) := by decide +kernel
theorem dX3_usersOf_5 : decode cX3_usersOf 5 = .ok (.bipush 10, 2) := by decide +kernel
theorem dX3_usersOf_7 : decode cX3_usersOf 7 = .ok (.if_icmp .ge 24, 3) := by decide +kernel
theorem dX3_usersOf_10 : decode cX3_usersOf 10 = .ok (.aload_n 0, 1) := by decide +kernel
theorem dX3_usersOf_11 : decode cX3_usersOf 11 = .ok (.iload_n 3, 1) := by decide +kernel
theorem dX3_usersOf_12 : decode cX3_usersOf 12 = .ok (.iload_n 1, 1) := by decide +kernel
theorem dX3_usersOf_13 : decode cX3_usersOf 13 = .ok (.invokevirtual 65, 3) := by decide +kernel
theorem dX3_usersOf_16 : decode cX3_usersOf 16 = .ok (.ifCond .le 9, 3) := by decide +kernel
theorem dX3_usersOf_19 : decode cX3_usersOf 19 = .ok (.iload_n 2, 1) := by decide +kernel
theorem dX3_usersOf_20 : decode cX3_usersOf 20 = .ok (.iconst 1, 1) := by decide +kernel
theorem dX3_usersOf_21 : decode cX3_usersOf 21 = .ok (.iload_n 3, 1) := by decide +kernel
theorem dX3_usersOf_22 : decode cX3_usersOf 22 = .ok (.ishl, 1) := by decide +kernel
theorem dX3_usersOf_23 : decode cX3_usersOf 23 = .ok (.ior, 1) := by decide +kernel
theorem dX3_usersOf_24 : decode cX3_usersOf 24 = .ok (.istore_n 2, 1) := by decide +kernel
theorem dX3_usersOf_25 : decode cX3_usersOf 25 = .ok (.iinc 3 1, 3) := by decide +kernel
theorem dX3_usersOf_28 : decode cX3_usersOf 28 = .ok (.goto (-24), 3) := by decide +kernel
theorem dX3_usersOf_31 : decode cX3_usersOf 31 = .ok (.iload_n 2, 1) := by decide +kernel
theorem dX3_usersOf_32 : decode cX3_usersOf 32 = .ok (.ireturn, 1) := by decide +kernel
set_option maxRecDepth 20000 in
theorem ggX3_noveltyFor_X3_usesBySchool : GoodIn wsX3_noveltyFor wsX3_usesBySchool := goodIn_r _ [10, 11, 19, 20, 21, 22, 23, 24, 25, 26, 27, 28, 29, 30, 31, 32, 33] (by decide +kernel) (by decide +kernel)
set_option maxRecDepth 20000 in
theorem gX3_noveltyFor_X3_usesBySchool : GoodIn wsX3_noveltyFor (wsV RX3 69 RX3 yX3_usesBySchool wsX3_usesBySchool) := goodIn_app (goodIn_of _ (by decide +kernel)) ggX3_noveltyFor_X3_usesBySchool
set_option maxRecDepth 20000 in
theorem ggX3_noveltyFor_X4_classOf : GoodIn wsX3_noveltyFor wsX4_classOf := goodIn_r _ [14] (by decide +kernel) (by decide +kernel)
set_option maxRecDepth 20000 in
theorem gX3_noveltyFor_X4_classOf_n73 : GoodIn wsX3_noveltyFor (wsX4_classOf) := ggX3_noveltyFor_X4_classOf
set_option maxRecDepth 20000 in
theorem ggX3_noveltyFor_X3_usesByClass : GoodIn wsX3_noveltyFor wsX3_usesByClass := goodIn_r _ [18, 11, 19, 20, 21, 22, 23, 24, 25, 26, 27, 28, 29, 30, 31, 32, 33] (by decide +kernel) (by decide +kernel)
set_option maxRecDepth 20000 in
theorem gX3_noveltyFor_X3_usesByClass : GoodIn wsX3_noveltyFor (wsV RX3 76 RX3 yX3_usesByClass wsX3_usesByClass) := goodIn_app (goodIn_of _ (by decide +kernel)) ggX3_noveltyFor_X3_usesByClass
theorem dX3_noveltyFor_0 : decode cX3_noveltyFor 0 = .ok (.aload_n 0, 1) := by decide +kernel
theorem dX3_noveltyFor_1 : decode cX3_noveltyFor 1 = .ok (.getfield 13, 3) := by decide +kernel
theorem dX3_noveltyFor_4 : decode cX3_noveltyFor 4 = .ok (.iconst 1, 1) := by decide +kernel
theorem dX3_noveltyFor_5 : decode cX3_noveltyFor 5 = .ok (.iaload, 1) := by decide +kernel
theorem dX3_noveltyFor_6 : decode cX3_noveltyFor 6 = .ok (.aload_n 0, 1) := by decide +kernel
theorem dX3_noveltyFor_7 : decode cX3_noveltyFor 7 = .ok (.iload_n 2, 1) := by decide +kernel
theorem dX3_noveltyFor_8 : decode cX3_noveltyFor 8 = .ok (.invokevirtual 69, 3) := by decide +kernel
theorem dX3_noveltyFor_11 : decode cX3_noveltyFor 11 = .ok (.aload_n 0, 1) := by decide +kernel
theorem dX3_noveltyFor_12 : decode cX3_noveltyFor 12 = .ok (.iload_n 1, 1) := by decide +kernel
theorem dX3_noveltyFor_13 : decode cX3_noveltyFor 13 = .ok (.invokestatic 73, 3) := by decide +kernel
theorem dX3_noveltyFor_16 : decode cX3_noveltyFor 16 = .ok (.iload_n 2, 1) := by decide +kernel
theorem dX3_noveltyFor_17 : decode cX3_noveltyFor 17 = .ok (.invokevirtual 76, 3) := by decide +kernel
theorem dX3_noveltyFor_20 : decode cX3_noveltyFor 20 = .ok (.iadd, 1) := by decide +kernel
theorem dX3_noveltyFor_21 : decode cX3_noveltyFor 21 = .ok (.imul, 1) := by decide +kernel
theorem dX3_noveltyFor_22 : decode cX3_noveltyFor 22 = .ok (.istore_n 3, 1) := by decide +kernel
theorem dX3_noveltyFor_23 : decode cX3_noveltyFor 23 = .ok (.iconst 0, 1) := by decide +kernel
theorem dX3_noveltyFor_24 : decode cX3_noveltyFor 24 = .ok (.bipush 100, 2) := by decide +kernel
theorem dX3_noveltyFor_26 : decode cX3_noveltyFor 26 = .ok (.iload_n 3, 1) := by decide +kernel
theorem dX3_noveltyFor_27 : decode cX3_noveltyFor 27 = .ok (.isub, 1) := by decide +kernel
theorem dX3_noveltyFor_28 : decode cX3_noveltyFor 28 = .ok (.invokestatic 79, 3) := by decide +kernel
theorem dX3_noveltyFor_31 : decode cX3_noveltyFor 31 = .ok (.ireturn, 1) := by decide +kernel
set_option maxRecDepth 20000 in
theorem ggX3_wornOutExcuses_X3_isWornOut : GoodIn wsX3_wornOutExcuses wsX3_isWornOut := goodIn_r _ [6, 7, 8, 9, 5, 10, 11, 12, 13, 14, 15, 16, 17, 18, 19, 20, 21, 22, 23, 24, 25, 26, 27, 28, 29, 30, 31, 32, 33, 34, 35, 36, 37, 38, 39, 40, 41, 42] (by decide +kernel) (by decide +kernel)
set_option maxRecDepth 20000 in
theorem gX3_wornOutExcuses_X3_isWornOut : GoodIn wsX3_wornOutExcuses (wsV RX3 84 RX3 yX3_isWornOut wsX3_isWornOut) := goodIn_app (goodIn_of _ (by decide +kernel)) ggX3_wornOutExcuses_X3_isWornOut
theorem dX3_wornOutExcuses_0 : decode cX3_wornOutExcuses 0 = .ok (.iconst 0, 1) := by decide +kernel
theorem dX3_wornOutExcuses_1 : decode cX3_wornOutExcuses 1 = .ok (.istore_n 1, 1) := by decide +kernel
theorem dX3_wornOutExcuses_2 : decode cX3_wornOutExcuses 2 = .ok (.iconst 0, 1) := by decide +kernel
theorem dX3_wornOutExcuses_3 : decode cX3_wornOutExcuses 3 = .ok (.istore_n 2, 1) := by decide +kernel
theorem dX3_wornOutExcuses_4 : decode cX3_wornOutExcuses 4 = .ok (.iload_n 2, 1) := by decide +kernel
theorem dX3_wornOutExcuses_5 : decode cX3_wornOutExcuses 5 = .ok (.aload_n 0, 1) := by decide +kernel
theorem dX3_wornOutExcuses_6 : decode cX3_wornOutExcuses 6 = .ok (.getfield 18, 3) := by decide +kernel
theorem dX3_wornOutExcuses_9 : decode cX3_wornOutExcuses 9 = .ok (.if_icmp .ge 20, 3) := by decide +kernel
theorem dX3_wornOutExcuses_12 : decode cX3_wornOutExcuses 12 = .ok (.aload_n 0, 1) := by decide +kernel
theorem dX3_wornOutExcuses_13 : decode cX3_wornOutExcuses 13 = .ok (.iload_n 2, 1) := by decide +kernel
theorem dX3_wornOutExcuses_14 : decode cX3_wornOutExcuses 14 = .ok (.invokevirtual 84, 3) := by decide +kernel
theorem dX3_wornOutExcuses_17 : decode cX3_wornOutExcuses 17 = .ok (.ifCond .eq 6, 3) := by decide +kernel
theorem dX3_wornOutExcuses_20 : decode cX3_wornOutExcuses 20 = .ok (.iinc 1 1, 3) := by decide +kernel
theorem dX3_wornOutExcuses_23 : decode cX3_wornOutExcuses 23 = .ok (.iinc 2 1, 3) := by decide +kernel
theorem dX3_wornOutExcuses_26 : decode cX3_wornOutExcuses 26 = .ok (.goto (-22), 3) := by decide +kernel
theorem dX3_wornOutExcuses_29 : decode cX3_wornOutExcuses 29 = .ok (.iload_n 1, 1) := by decide +kernel
theorem dX3_wornOutExcuses_30 : decode cX3_wornOutExcuses 30 = .ok (.ireturn, 1) := by decide +kernel
set_option maxRecDepth 20000 in
theorem ggX3_isWornOut_X3_noveltyFor : GoodIn wsX3_isWornOut wsX3_noveltyFor := goodIn_r _ [5, 6, 7, 8, 9, 10, 11, 12, 13, 4, 14, 15, 16, 17, 18, 19, 20, 21, 22, 23, 24, 25, 26, 27, 28, 29, 30, 31, 32, 33, 34, 35, 36, 37] (by decide +kernel) (by decide +kernel)
set_option maxRecDepth 20000 in
theorem gX3_isWornOut_X3_noveltyFor : GoodIn wsX3_isWornOut (wsV RX3 88 RX3 yX3_noveltyFor wsX3_noveltyFor) := goodIn_app (goodIn_of _ (by decide +kernel)) ggX3_isWornOut_X3_noveltyFor
theorem dX3_isWornOut_0 : decode cX3_isWornOut 0 = .ok (.iconst 0, 1) := by decide +kernel
theorem dX3_isWornOut_1 : decode cX3_isWornOut 1 = .ok (.istore_n 2, 1) := by decide +kernel
theorem dX3_isWornOut_2 : decode cX3_isWornOut 2 = .ok (.iload_n 2, 1) := by decide +kernel
theorem dX3_isWornOut_3 : decode cX3_isWornOut 3 = .ok (.bipush 10, 2) := by decide +kernel
theorem dX3_isWornOut_5 : decode cX3_isWornOut 5 = .ok (.if_icmp .ge 20, 3) := by decide +kernel
theorem dX3_isWornOut_8 : decode cX3_isWornOut 8 = .ok (.aload_n 0, 1) := by decide +kernel
theorem dX3_isWornOut_9 : decode cX3_isWornOut 9 = .ok (.iload_n 2, 1) := by decide +kernel
theorem dX3_isWornOut_10 : decode cX3_isWornOut 10 = .ok (.iload_n 1, 1) := by decide +kernel
theorem dX3_isWornOut_11 : decode cX3_isWornOut 11 = .ok (.invokevirtual 88, 3) := by decide +kernel
theorem dX3_isWornOut_14 : decode cX3_isWornOut 14 = .ok (.ifCond .le 5, 3) := by decide +kernel
theorem dX3_isWornOut_17 : decode cX3_isWornOut 17 = .ok (.iconst 0, 1) := by decide +kernel
theorem dX3_isWornOut_18 : decode cX3_isWornOut 18 = .ok (.ireturn, 1) := by decide +kernel
theorem dX3_isWornOut_19 : decode cX3_isWornOut 19 = .ok (.iinc 2 1, 3) := by decide +kernel
theorem dX3_isWornOut_22 : decode cX3_isWornOut 22 = .ok (.goto (-20), 3) := by decide +kernel
theorem dX3_isWornOut_25 : decode cX3_isWornOut 25 = .ok (.iconst 1, 1) := by decide +kernel
theorem dX3_isWornOut_26 : decode cX3_isWornOut 26 = .ok (.ireturn, 1) := by decide +kernel
set_option maxRecDepth 20000 in
theorem ggX3_weightOf_X3_noveltyFor : GoodIn wsX3_weightOf wsX3_noveltyFor := goodIn_r _ [8, 2, 9, 10, 11, 12, 13, 14, 15, 7, 16, 17, 18, 19, 20, 21, 22, 23, 24, 30, 31, 32, 33, 34, 35, 36, 37, 38, 39, 40, 41, 42, 43, 44] (by decide +kernel) (by decide +kernel)
set_option maxRecDepth 20000 in
theorem gX3_weightOf_X3_noveltyFor : GoodIn wsX3_weightOf (wsV RX3 88 RX3 yX3_noveltyFor wsX3_noveltyFor) := goodIn_app (goodIn_of _ (by decide +kernel)) ggX3_weightOf_X3_noveltyFor
set_option maxRecDepth 20000 in
theorem ggX3_weightOf_X4_classOf : GoodIn wsX3_weightOf wsX4_classOf := goodIn_r _ [20] (by decide +kernel) (by decide +kernel)
set_option maxRecDepth 20000 in
theorem gX3_weightOf_X4_classOf_n73 : GoodIn wsX3_weightOf (wsX4_classOf) := ggX3_weightOf_X4_classOf
set_option maxRecDepth 20000 in
theorem ggX3_weightOf_X3_standingOf : GoodIn wsX3_weightOf wsX3_standingOf := goodIn_r _ [28, 29, 9, 10, 11, 12, 18, 19, 20, 30, 31, 32, 33, 34, 35, 36, 37, 38, 39, 40, 41, 42, 43, 44] (by decide +kernel) (by decide +kernel)
set_option maxRecDepth 20000 in
theorem gX3_weightOf_X3_standingOf : GoodIn wsX3_weightOf (wsV RX3 91 RX3 yX3_standingOf wsX3_standingOf) := goodIn_app (goodIn_of _ (by decide +kernel)) ggX3_weightOf_X3_standingOf
theorem dX3_weightOf_0 : decode cX3_weightOf 0 = .ok (.aload_n 0, 1) := by decide +kernel
theorem dX3_weightOf_1 : decode cX3_weightOf 1 = .ok (.getfield 25, 3) := by decide +kernel
theorem dX3_weightOf_4 : decode cX3_weightOf 4 = .ok (.iload_n 2, 1) := by decide +kernel
theorem dX3_weightOf_5 : decode cX3_weightOf 5 = .ok (.iaload, 1) := by decide +kernel
theorem dX3_weightOf_6 : decode cX3_weightOf 6 = .ok (.aload_n 0, 1) := by decide +kernel
theorem dX3_weightOf_7 : decode cX3_weightOf 7 = .ok (.iload_n 1, 1) := by decide +kernel
theorem dX3_weightOf_8 : decode cX3_weightOf 8 = .ok (.iload_n 2, 1) := by decide +kernel
theorem dX3_weightOf_9 : decode cX3_weightOf 9 = .ok (.invokevirtual 88, 3) := by decide +kernel
theorem dX3_weightOf_12 : decode cX3_weightOf 12 = .ok (.imul, 1) := by decide +kernel
theorem dX3_weightOf_13 : decode cX3_weightOf 13 = .ok (.bipush 100, 2) := by decide +kernel
theorem dX3_weightOf_15 : decode cX3_weightOf 15 = .ok (.idiv, 1) := by decide +kernel
theorem dX3_weightOf_16 : decode cX3_weightOf 16 = .ok (.istore 5, 2) := by decide +kernel
theorem dX3_weightOf_18 : decode cX3_weightOf 18 = .ok (.iload 5, 2) := by decide +kernel
theorem dX3_weightOf_20 : decode cX3_weightOf 20 = .ok (.aload_n 0, 1) := by decide +kernel
theorem dX3_weightOf_21 : decode cX3_weightOf 21 = .ok (.getfield 13, 3) := by decide +kernel
theorem dX3_weightOf_24 : decode cX3_weightOf 24 = .ok (.iconst 4, 1) := by decide +kernel
theorem dX3_weightOf_25 : decode cX3_weightOf 25 = .ok (.iaload, 1) := by decide +kernel
theorem dX3_weightOf_26 : decode cX3_weightOf 26 = .ok (.aload_n 0, 1) := by decide +kernel
theorem dX3_weightOf_27 : decode cX3_weightOf 27 = .ok (.getfield 52, 3) := by decide +kernel
theorem dX3_weightOf_30 : decode cX3_weightOf 30 = .ok (.iload_n 1, 1) := by decide +kernel
theorem dX3_weightOf_31 : decode cX3_weightOf 31 = .ok (.invokestatic 73, 3) := by decide +kernel
theorem dX3_weightOf_34 : decode cX3_weightOf 34 = .ok (.iaload, 1) := by decide +kernel
theorem dX3_weightOf_35 : decode cX3_weightOf 35 = .ok (.imul, 1) := by decide +kernel
theorem dX3_weightOf_36 : decode cX3_weightOf 36 = .ok (.isub, 1) := by decide +kernel
theorem dX3_weightOf_37 : decode cX3_weightOf 37 = .ok (.istore 5, 2) := by decide +kernel
theorem dX3_weightOf_39 : decode cX3_weightOf 39 = .ok (.iload 5, 2) := by decide +kernel
theorem dX3_weightOf_41 : decode cX3_weightOf 41 = .ok (.iload 4, 2) := by decide +kernel
theorem dX3_weightOf_43 : decode cX3_weightOf 43 = .ok (.bipush 10, 2) := by decide +kernel
theorem dX3_weightOf_45 : decode cX3_weightOf 45 = .ok (.idiv, 1) := by decide +kernel
theorem dX3_weightOf_46 : decode cX3_weightOf 46 = .ok (.isub, 1) := by decide +kernel
theorem dX3_weightOf_47 : decode cX3_weightOf 47 = .ok (.istore 5, 2) := by decide +kernel
theorem dX3_weightOf_49 : decode cX3_weightOf 49 = .ok (.iload_n 3, 1) := by decide +kernel
theorem dX3_weightOf_50 : decode cX3_weightOf 50 = .ok (.bipush (-6), 2) := by decide +kernel
theorem dX3_weightOf_52 : decode cX3_weightOf 52 = .ok (.if_icmp .eq 14, 3) := by decide +kernel
theorem dX3_weightOf_55 : decode cX3_weightOf 55 = .ok (.iload 5, 2) := by decide +kernel
theorem dX3_weightOf_57 : decode cX3_weightOf 57 = .ok (.aload_n 0, 1) := by decide +kernel
theorem dX3_weightOf_58 : decode cX3_weightOf 58 = .ok (.iload_n 3, 1) := by decide +kernel
theorem dX3_weightOf_59 : decode cX3_weightOf 59 = .ok (.iload_n 1, 1) := by decide +kernel
theorem dX3_weightOf_60 : decode cX3_weightOf 60 = .ok (.invokevirtual 91, 3) := by decide +kernel
theorem dX3_weightOf_63 : decode cX3_weightOf 63 = .ok (.iadd, 1) := by decide +kernel
theorem dX3_weightOf_64 : decode cX3_weightOf 64 = .ok (.istore 5, 2) := by decide +kernel
theorem dX3_weightOf_66 : decode cX3_weightOf 66 = .ok (.iload 5, 2) := by decide +kernel
theorem dX3_weightOf_68 : decode cX3_weightOf 68 = .ok (.ireturn, 1) := by decide +kernel
set_option maxRecDepth 20000 in
theorem ggX3_standingOf_X4_classOf : GoodIn wsX3_standingOf wsX4_classOf := goodIn_r _ [8] (by decide +kernel) (by decide +kernel)
set_option maxRecDepth 20000 in
theorem gX3_standingOf_X4_classOf_n73 : GoodIn wsX3_standingOf (wsX4_classOf) := ggX3_standingOf_X4_classOf
theorem dX3_standingOf_0 : decode cX3_standingOf 0 = .ok (.iload_n 1, 1) := by decide +kernel
theorem dX3_standingOf_1 : decode cX3_standingOf 1 = .ok (.invokestatic 73, 3) := by decide +kernel
theorem dX3_standingOf_4 : decode cX3_standingOf 4 = .ok (.iload_n 2, 1) := by decide +kernel
theorem dX3_standingOf_5 : decode cX3_standingOf 5 = .ok (.invokestatic 73, 3) := by decide +kernel
theorem dX3_standingOf_8 : decode cX3_standingOf 8 = .ok (.if_icmp .ne 16, 3) := by decide +kernel
theorem dX3_standingOf_11 : decode cX3_standingOf 11 = .ok (.iconst 0, 1) := by decide +kernel
theorem dX3_standingOf_12 : decode cX3_standingOf 12 = .ok (.aload_n 0, 1) := by decide +kernel
theorem dX3_standingOf_13 : decode cX3_standingOf 13 = .ok (.getfield 34, 3) := by decide +kernel
theorem dX3_standingOf_16 : decode cX3_standingOf 16 = .ok (.iload_n 1, 1) := by decide +kernel
theorem dX3_standingOf_17 : decode cX3_standingOf 17 = .ok (.iaload, 1) := by decide +kernel
theorem dX3_standingOf_18 : decode cX3_standingOf 18 = .ok (.iconst 2, 1) := by decide +kernel
theorem dX3_standingOf_19 : decode cX3_standingOf 19 = .ok (.isub, 1) := by decide +kernel
theorem dX3_standingOf_20 : decode cX3_standingOf 20 = .ok (.invokestatic 79, 3) := by decide +kernel
theorem dX3_standingOf_23 : decode cX3_standingOf 23 = .ok (.ireturn, 1) := by decide +kernel
theorem dX3_standingOf_24 : decode cX3_standingOf 24 = .ok (.aload_n 0, 1) := by decide +kernel
theorem dX3_standingOf_25 : decode cX3_standingOf 25 = .ok (.getfield 34, 3) := by decide +kernel
theorem dX3_standingOf_28 : decode cX3_standingOf 28 = .ok (.iload_n 1, 1) := by decide +kernel
theorem dX3_standingOf_29 : decode cX3_standingOf 29 = .ok (.iaload, 1) := by decide +kernel
theorem dX3_standingOf_30 : decode cX3_standingOf 30 = .ok (.ireturn, 1) := by decide +kernel
set_option maxRecDepth 20000 in
theorem ggX3_reasonAgainst_X3_usesOf : GoodIn wsX3_reasonAgainst wsX3_usesOf := goodIn_r _ [9, 10, 40, 41, 42, 43, 44, 45, 46, 47, 48, 49, 50, 51, 52, 53, 54] (by decide +kernel) (by decide +kernel)
set_option maxRecDepth 20000 in
theorem gX3_reasonAgainst_X3_usesOf : GoodIn wsX3_reasonAgainst (wsV RX3 65 RX3 yX3_usesOf wsX3_usesOf) := goodIn_app (goodIn_of _ (by decide +kernel)) ggX3_reasonAgainst_X3_usesOf
set_option maxRecDepth 20000 in
theorem ggX3_reasonAgainst_X3_weightOf : GoodIn wsX3_reasonAgainst wsX3_weightOf := goodIn_r _ [14, 15, 1, 16, 17, 18, 19, 8, 20, 21, 22, 23, 24, 25, 26, 27, 28, 10, 29, 30, 31, 32, 33, 34, 35, 36, 37, 38, 39, 4, 40, 41, 42, 43, 44, 45, 46, 47, 48, 49, 50, 51, 52, 53, 54] (by decide +kernel) (by decide +kernel)
set_option maxRecDepth 20000 in
theorem gX3_reasonAgainst_X3_weightOf : GoodIn wsX3_reasonAgainst (wsV RX3 94 RX3 yX3_weightOf wsX3_weightOf) := goodIn_app (goodIn_of _ (by decide +kernel)) ggX3_reasonAgainst_X3_weightOf
theorem dX3_reasonAgainst_0 : decode cX3_reasonAgainst 0 = .ok (.aload_n 0, 1) := by decide +kernel
theorem dX3_reasonAgainst_1 : decode cX3_reasonAgainst 1 = .ok (.iload_n 1, 1) := by decide +kernel
theorem dX3_reasonAgainst_2 : decode cX3_reasonAgainst 2 = .ok (.iload_n 2, 1) := by decide +kernel
theorem dX3_reasonAgainst_3 : decode cX3_reasonAgainst 3 = .ok (.invokevirtual 65, 3) := by decide +kernel
theorem dX3_reasonAgainst_6 : decode cX3_reasonAgainst 6 = .ok (.aload_n 0, 1) := by decide +kernel
theorem dX3_reasonAgainst_7 : decode cX3_reasonAgainst 7 = .ok (.getfield 13, 3) := by decide +kernel
theorem dX3_reasonAgainst_10 : decode cX3_reasonAgainst 10 = .ok (.iconst 2, 1) := by decide +kernel
theorem dX3_reasonAgainst_11 : decode cX3_reasonAgainst 11 = .ok (.iaload, 1) := by decide +kernel
theorem dX3_reasonAgainst_12 : decode cX3_reasonAgainst 12 = .ok (.if_icmp .lt 5, 3) := by decide +kernel
theorem dX3_reasonAgainst_15 : decode cX3_reasonAgainst 15 = .ok (.iconst 1, 1) := by decide +kernel
theorem dX3_reasonAgainst_16 : decode cX3_reasonAgainst 16 = .ok (.ireturn, 1) := by decide +kernel
theorem dX3_reasonAgainst_17 : decode cX3_reasonAgainst 17 = .ok (.aload_n 0, 1) := by decide +kernel
theorem dX3_reasonAgainst_18 : decode cX3_reasonAgainst 18 = .ok (.getfield 49, 3) := by decide +kernel
theorem dX3_reasonAgainst_21 : decode cX3_reasonAgainst 21 = .ok (.iload_n 1, 1) := by decide +kernel
theorem dX3_reasonAgainst_22 : decode cX3_reasonAgainst 22 = .ok (.iaload, 1) := by decide +kernel
theorem dX3_reasonAgainst_23 : decode cX3_reasonAgainst 23 = .ok (.aload_n 0, 1) := by decide +kernel
theorem dX3_reasonAgainst_24 : decode cX3_reasonAgainst 24 = .ok (.getfield 22, 3) := by decide +kernel
theorem dX3_reasonAgainst_27 : decode cX3_reasonAgainst 27 = .ok (.iload_n 2, 1) := by decide +kernel
theorem dX3_reasonAgainst_28 : decode cX3_reasonAgainst 28 = .ok (.iaload, 1) := by decide +kernel
theorem dX3_reasonAgainst_29 : decode cX3_reasonAgainst 29 = .ok (.if_icmp .ne 5, 3) := by decide +kernel
theorem dX3_reasonAgainst_32 : decode cX3_reasonAgainst 32 = .ok (.iconst 2, 1) := by decide +kernel
theorem dX3_reasonAgainst_33 : decode cX3_reasonAgainst 33 = .ok (.ireturn, 1) := by decide +kernel
theorem dX3_reasonAgainst_34 : decode cX3_reasonAgainst 34 = .ok (.iload_n 3, 1) := by decide +kernel
theorem dX3_reasonAgainst_35 : decode cX3_reasonAgainst 35 = .ok (.bipush (-6), 2) := by decide +kernel
theorem dX3_reasonAgainst_37 : decode cX3_reasonAgainst 37 = .ok (.if_icmp .eq 14, 3) := by decide +kernel
theorem dX3_reasonAgainst_40 : decode cX3_reasonAgainst 40 = .ok (.aload_n 0, 1) := by decide +kernel
theorem dX3_reasonAgainst_41 : decode cX3_reasonAgainst 41 = .ok (.getfield 34, 3) := by decide +kernel
theorem dX3_reasonAgainst_44 : decode cX3_reasonAgainst 44 = .ok (.iload_n 3, 1) := by decide +kernel
theorem dX3_reasonAgainst_45 : decode cX3_reasonAgainst 45 = .ok (.iaload, 1) := by decide +kernel
theorem dX3_reasonAgainst_46 : decode cX3_reasonAgainst 46 = .ok (.ifCond .ne 5, 3) := by decide +kernel
theorem dX3_reasonAgainst_49 : decode cX3_reasonAgainst 49 = .ok (.iconst 3, 1) := by decide +kernel
theorem dX3_reasonAgainst_50 : decode cX3_reasonAgainst 50 = .ok (.ireturn, 1) := by decide +kernel
theorem dX3_reasonAgainst_51 : decode cX3_reasonAgainst 51 = .ok (.aload_n 0, 1) := by decide +kernel
theorem dX3_reasonAgainst_52 : decode cX3_reasonAgainst 52 = .ok (.iload_n 1, 1) := by decide +kernel
theorem dX3_reasonAgainst_53 : decode cX3_reasonAgainst 53 = .ok (.iload_n 2, 1) := by decide +kernel
theorem dX3_reasonAgainst_54 : decode cX3_reasonAgainst 54 = .ok (.iload_n 3, 1) := by decide +kernel
theorem dX3_reasonAgainst_55 : decode cX3_reasonAgainst 55 = .ok (.iload 4, 2) := by decide +kernel
theorem dX3_reasonAgainst_57 : decode cX3_reasonAgainst 57 = .ok (.invokevirtual 94, 3) := by decide +kernel
theorem dX3_reasonAgainst_60 : decode cX3_reasonAgainst 60 = .ok (.aload_n 0, 1) := by decide +kernel
theorem dX3_reasonAgainst_61 : decode cX3_reasonAgainst 61 = .ok (.getfield 13, 3) := by decide +kernel
theorem dX3_reasonAgainst_64 : decode cX3_reasonAgainst 64 = .ok (.iconst 0, 1) := by decide +kernel
theorem dX3_reasonAgainst_65 : decode cX3_reasonAgainst 65 = .ok (.iaload, 1) := by decide +kernel
theorem dX3_reasonAgainst_66 : decode cX3_reasonAgainst 66 = .ok (.if_icmp .ge 5, 3) := by decide +kernel
theorem dX3_reasonAgainst_69 : decode cX3_reasonAgainst 69 = .ok (.iconst 4, 1) := by decide +kernel
theorem dX3_reasonAgainst_70 : decode cX3_reasonAgainst 70 = .ok (.ireturn, 1) := by decide +kernel
theorem dX3_reasonAgainst_71 : decode cX3_reasonAgainst 71 = .ok (.iconst 0, 1) := by decide +kernel
theorem dX3_reasonAgainst_72 : decode cX3_reasonAgainst 72 = .ok (.ireturn, 1) := by decide +kernel
set_option maxRecDepth 20000 in
theorem ggX3_takeOffer_X3_reasonAgainst : GoodIn wsX3_takeOffer wsX3_reasonAgainst := goodIn_r _ [7, 8, 1, 2, 9, 10, 11, 12, 6, 13, 14, 15, 16, 17, 18, 19, 20, 21, 22, 23, 24, 25, 26, 27, 28, 29, 30, 31, 32, 33, 34, 35, 36, 37, 38, 39, 40, 41, 42, 43, 68, 69, 70, 71, 72, 73, 74, 75, 76, 77, 78, 79, 80, 81, 82] (by decide +kernel) (by decide +kernel)
set_option maxRecDepth 20000 in
theorem gX3_takeOffer_X3_reasonAgainst : GoodIn wsX3_takeOffer (wsV RX3 98 RX3 yX3_reasonAgainst wsX3_reasonAgainst) := goodIn_app (goodIn_of _ (by decide +kernel)) ggX3_takeOffer_X3_reasonAgainst
set_option maxRecDepth 20000 in
theorem ggX3_takeOffer_X3_stamp : GoodIn wsX3_takeOffer wsX3_stamp := goodIn_r _ [47, 14, 48, 49, 50, 51, 52, 6, 53, 9, 25, 26, 27, 28, 54, 55, 56, 57, 20, 58, 59, 60, 33, 34, 35, 68, 69, 70, 71, 72, 73, 74, 75, 76, 77, 78, 79, 80, 81, 82] (by decide +kernel) (by decide +kernel)
set_option maxRecDepth 20000 in
theorem gX3_takeOffer_X3_stamp : GoodIn wsX3_takeOffer (wsV RX3 101 RX3 yX3_stamp wsX3_stamp) := goodIn_app (goodIn_of _ (by decide +kernel)) ggX3_takeOffer_X3_stamp
set_option maxRecDepth 20000 in
theorem ggX3_takeOffer_X3_refuse : GoodIn wsX3_takeOffer wsX3_refuse := goodIn_r _ [64, 65, 8, 66, 67, 54, 55, 56, 6, 57, 20, 58, 59, 27, 60, 33, 34, 35, 50, 51, 52, 53, 9, 25, 26, 28, 68, 69, 70, 71, 72, 73, 74, 75, 76, 77, 78, 79, 80, 81, 82] (by decide +kernel) (by decide +kernel)
set_option maxRecDepth 20000 in
theorem gX3_takeOffer_X3_refuse : GoodIn wsX3_takeOffer (wsV RX3 105 RX3 yX3_refuse wsX3_refuse) := goodIn_app (goodIn_of _ (by decide +kernel)) ggX3_takeOffer_X3_refuse
theorem dX3_takeOffer_0 : decode cX3_takeOffer 0 = .ok (.aload_n 0, 1) := by decide +kernel
theorem dX3_takeOffer_1 : decode cX3_takeOffer 1 = .ok (.iload_n 1, 1) := by decide +kernel
theorem dX3_takeOffer_2 : decode cX3_takeOffer 2 = .ok (.iload_n 2, 1) := by decide +kernel
theorem dX3_takeOffer_3 : decode cX3_takeOffer 3 = .ok (.iload_n 3, 1) := by decide +kernel
theorem dX3_takeOffer_4 : decode cX3_takeOffer 4 = .ok (.iload 4, 2) := by decide +kernel
theorem dX3_takeOffer_6 : decode cX3_takeOffer 6 = .ok (.invokevirtual 98, 3) := by decide +kernel
theorem dX3_takeOffer_9 : decode cX3_takeOffer 9 = .ok (.istore 5, 2) := by decide +kernel
theorem dX3_takeOffer_11 : decode cX3_takeOffer 11 = .ok (.iload 5, 2) := by decide +kernel
theorem dX3_takeOffer_13 : decode cX3_takeOffer 13 = .ok (.ifCond .ne 15, 3) := by decide +kernel
theorem dX3_takeOffer_16 : decode cX3_takeOffer 16 = .ok (.aload_n 0, 1) := by decide +kernel
theorem dX3_takeOffer_17 : decode cX3_takeOffer 17 = .ok (.iload_n 1, 1) := by decide +kernel
theorem dX3_takeOffer_18 : decode cX3_takeOffer 18 = .ok (.iload_n 2, 1) := by decide +kernel
theorem dX3_takeOffer_19 : decode cX3_takeOffer 19 = .ok (.iload_n 3, 1) := by decide +kernel
theorem dX3_takeOffer_20 : decode cX3_takeOffer 20 = .ok (.iload 4, 2) := by decide +kernel
theorem dX3_takeOffer_22 : decode cX3_takeOffer 22 = .ok (.invokevirtual 101, 3) := by decide +kernel
theorem dX3_takeOffer_25 : decode cX3_takeOffer 25 = .ok (.goto 13, 3) := by decide +kernel
theorem dX3_takeOffer_28 : decode cX3_takeOffer 28 = .ok (.aload_n 0, 1) := by decide +kernel
theorem dX3_takeOffer_29 : decode cX3_takeOffer 29 = .ok (.iload_n 1, 1) := by decide +kernel
theorem dX3_takeOffer_30 : decode cX3_takeOffer 30 = .ok (.iload_n 3, 1) := by decide +kernel
theorem dX3_takeOffer_31 : decode cX3_takeOffer 31 = .ok (.iload 4, 2) := by decide +kernel
theorem dX3_takeOffer_33 : decode cX3_takeOffer 33 = .ok (.iload 5, 2) := by decide +kernel
theorem dX3_takeOffer_35 : decode cX3_takeOffer 35 = .ok (.invokevirtual 105, 3) := by decide +kernel
theorem dX3_takeOffer_38 : decode cX3_takeOffer 38 = .ok (.aload_n 0, 1) := by decide +kernel
theorem dX3_takeOffer_39 : decode cX3_takeOffer 39 = .ok (.getfield 49, 3) := by decide +kernel
theorem dX3_takeOffer_42 : decode cX3_takeOffer 42 = .ok (.iload_n 1, 1) := by decide +kernel
theorem dX3_takeOffer_43 : decode cX3_takeOffer 43 = .ok (.aload_n 0, 1) := by decide +kernel
theorem dX3_takeOffer_44 : decode cX3_takeOffer 44 = .ok (.getfield 22, 3) := by decide +kernel
theorem dX3_takeOffer_47 : decode cX3_takeOffer 47 = .ok (.iload_n 2, 1) := by decide +kernel
theorem dX3_takeOffer_48 : decode cX3_takeOffer 48 = .ok (.iaload, 1) := by decide +kernel
theorem dX3_takeOffer_49 : decode cX3_takeOffer 49 = .ok (.iastore, 1) := by decide +kernel
theorem dX3_takeOffer_50 : decode cX3_takeOffer 50 = .ok (.iload 5, 2) := by decide +kernel
theorem dX3_takeOffer_52 : decode cX3_takeOffer 52 = .ok (.ireturn, 1) := by decide +kernel
set_option maxRecDepth 20000 in
theorem ggX3_stamp_X3_takeCredit : GoodIn wsX3_stamp wsX3_takeCredit := goodIn_r _ [8, 9, 10, 11, 12, 13, 25, 26, 27, 28, 29, 30, 31, 32, 33, 34, 35, 36, 37, 38, 39] (by decide +kernel) (by decide +kernel)
set_option maxRecDepth 20000 in
theorem gX3_stamp_X3_takeCredit : GoodIn wsX3_stamp (wsV RX3 108 RX3 yX3_takeCredit wsX3_takeCredit) := goodIn_app (goodIn_of _ (by decide +kernel)) ggX3_stamp_X3_takeCredit
set_option maxRecDepth 20000 in
theorem ggX3_stamp_X3_angerMasterOf : GoodIn wsX3_stamp wsX3_angerMasterOf := goodIn_r _ [17, 18, 19, 20, 12, 21, 22, 23, 24, 25, 26, 27, 28, 29, 30, 31, 32, 33, 34, 35, 36, 37, 38, 39] (by decide +kernel) (by decide +kernel)
set_option maxRecDepth 20000 in
theorem gX3_stamp_X3_angerMasterOf : GoodIn wsX3_stamp (wsV RX3 112 RX3 yX3_angerMasterOf wsX3_angerMasterOf) := goodIn_app (goodIn_of _ (by decide +kernel)) ggX3_stamp_X3_angerMasterOf
theorem dX3_stamp_0 : decode cX3_stamp 0 = .ok (.aload_n 0, 1) := by decide +kernel
theorem dX3_stamp_1 : decode cX3_stamp 1 = .ok (.getfield 31, 3) := by decide +kernel
theorem dX3_stamp_4 : decode cX3_stamp 4 = .ok (.iload_n 1, 1) := by decide +kernel
theorem dX3_stamp_5 : decode cX3_stamp 5 = .ok (.bipush 12, 2) := by decide +kernel
theorem dX3_stamp_7 : decode cX3_stamp 7 = .ok (.imul, 1) := by decide +kernel
theorem dX3_stamp_8 : decode cX3_stamp 8 = .ok (.iload_n 2, 1) := by decide +kernel
theorem dX3_stamp_9 : decode cX3_stamp 9 = .ok (.iadd, 1) := by decide +kernel
theorem dX3_stamp_10 : decode cX3_stamp 10 = .ok (.dup2, 1) := by decide +kernel
theorem dX3_stamp_11 : decode cX3_stamp 11 = .ok (.iaload, 1) := by decide +kernel
theorem dX3_stamp_12 : decode cX3_stamp 12 = .ok (.iconst 1, 1) := by decide +kernel
theorem dX3_stamp_13 : decode cX3_stamp 13 = .ok (.iadd, 1) := by decide +kernel
theorem dX3_stamp_14 : decode cX3_stamp 14 = .ok (.iastore, 1) := by decide +kernel
theorem dX3_stamp_15 : decode cX3_stamp 15 = .ok (.aload_n 0, 1) := by decide +kernel
theorem dX3_stamp_16 : decode cX3_stamp 16 = .ok (.getfield 28, 3) := by decide +kernel
theorem dX3_stamp_19 : decode cX3_stamp 19 = .ok (.iload_n 2, 1) := by decide +kernel
theorem dX3_stamp_20 : decode cX3_stamp 20 = .ok (.dup2, 1) := by decide +kernel
theorem dX3_stamp_21 : decode cX3_stamp 21 = .ok (.iaload, 1) := by decide +kernel
theorem dX3_stamp_22 : decode cX3_stamp 22 = .ok (.iconst 1, 1) := by decide +kernel
theorem dX3_stamp_23 : decode cX3_stamp 23 = .ok (.iadd, 1) := by decide +kernel
theorem dX3_stamp_24 : decode cX3_stamp 24 = .ok (.iastore, 1) := by decide +kernel
theorem dX3_stamp_25 : decode cX3_stamp 25 = .ok (.aload_n 0, 1) := by decide +kernel
theorem dX3_stamp_26 : decode cX3_stamp 26 = .ok (.getfield 43, 3) := by decide +kernel
theorem dX3_stamp_29 : decode cX3_stamp 29 = .ok (.iload_n 1, 1) := by decide +kernel
theorem dX3_stamp_30 : decode cX3_stamp 30 = .ok (.dup2, 1) := by decide +kernel
theorem dX3_stamp_31 : decode cX3_stamp 31 = .ok (.iaload, 1) := by decide +kernel
theorem dX3_stamp_32 : decode cX3_stamp 32 = .ok (.iconst 1, 1) := by decide +kernel
theorem dX3_stamp_33 : decode cX3_stamp 33 = .ok (.iadd, 1) := by decide +kernel
theorem dX3_stamp_34 : decode cX3_stamp 34 = .ok (.iastore, 1) := by decide +kernel
theorem dX3_stamp_35 : decode cX3_stamp 35 = .ok (.aload_n 0, 1) := by decide +kernel
theorem dX3_stamp_36 : decode cX3_stamp 36 = .ok (.iload_n 3, 1) := by decide +kernel
theorem dX3_stamp_37 : decode cX3_stamp 37 = .ok (.iconst 1, 1) := by decide +kernel
theorem dX3_stamp_38 : decode cX3_stamp 38 = .ok (.invokevirtual 108, 3) := by decide +kernel
theorem dX3_stamp_41 : decode cX3_stamp 41 = .ok (.iload 4, 2) := by decide +kernel
theorem dX3_stamp_43 : decode cX3_stamp 43 = .ok (.bipush 30, 2) := by decide +kernel
theorem dX3_stamp_45 : decode cX3_stamp 45 = .ok (.if_icmp .le 8, 3) := by decide +kernel
theorem dX3_stamp_48 : decode cX3_stamp 48 = .ok (.aload_n 0, 1) := by decide +kernel
theorem dX3_stamp_49 : decode cX3_stamp 49 = .ok (.iload_n 1, 1) := by decide +kernel
theorem dX3_stamp_50 : decode cX3_stamp 50 = .ok (.invokevirtual 112, 3) := by decide +kernel
theorem dX3_stamp_53 : decode cX3_stamp 53 = .ok (.return_, 1) := by decide +kernel
set_option maxRecDepth 20000 in
theorem ggX3_refuse_X3_angerMasterOf : GoodIn wsX3_refuse wsX3_angerMasterOf := goodIn_r _ [9, 10, 11, 12, 13, 14, 15, 16, 17, 26, 27, 28, 29, 30, 31, 32, 33, 34, 35, 36, 37, 38, 39, 40] (by decide +kernel) (by decide +kernel)
set_option maxRecDepth 20000 in
theorem gX3_refuse_X3_angerMasterOf : GoodIn wsX3_refuse (wsV RX3 112 RX3 yX3_angerMasterOf wsX3_angerMasterOf) := goodIn_app (goodIn_of _ (by decide +kernel)) ggX3_refuse_X3_angerMasterOf
set_option maxRecDepth 20000 in
theorem ggX3_refuse_X3_takeCredit : GoodIn wsX3_refuse wsX3_takeCredit := goodIn_r _ [21, 22, 23, 24, 13, 25, 26, 27, 28, 29, 30, 31, 32, 33, 34, 35, 36, 37, 38, 39, 40] (by decide +kernel) (by decide +kernel)
set_option maxRecDepth 20000 in
theorem gX3_refuse_X3_takeCredit : GoodIn wsX3_refuse (wsV RX3 108 RX3 yX3_takeCredit wsX3_takeCredit) := goodIn_app (goodIn_of _ (by decide +kernel)) ggX3_refuse_X3_takeCredit
theorem dX3_refuse_0 : decode cX3_refuse 0 = .ok (.aload_n 0, 1) := by decide +kernel
theorem dX3_refuse_1 : decode cX3_refuse 1 = .ok (.getfield 37, 3) := by decide +kernel
theorem dX3_refuse_4 : decode cX3_refuse 4 = .ok (.iload_n 1, 1) := by decide +kernel
theorem dX3_refuse_5 : decode cX3_refuse 5 = .ok (.dup2, 1) := by decide +kernel
theorem dX3_refuse_6 : decode cX3_refuse 6 = .ok (.iaload, 1) := by decide +kernel
theorem dX3_refuse_7 : decode cX3_refuse 7 = .ok (.aload_n 0, 1) := by decide +kernel
theorem dX3_refuse_8 : decode cX3_refuse 8 = .ok (.getfield 13, 3) := by decide +kernel
theorem dX3_refuse_11 : decode cX3_refuse 11 = .ok (.iconst 3, 1) := by decide +kernel
theorem dX3_refuse_12 : decode cX3_refuse 12 = .ok (.iaload, 1) := by decide +kernel
theorem dX3_refuse_13 : decode cX3_refuse 13 = .ok (.iload_n 3, 1) := by decide +kernel
theorem dX3_refuse_14 : decode cX3_refuse 14 = .ok (.imul, 1) := by decide +kernel
theorem dX3_refuse_15 : decode cX3_refuse 15 = .ok (.iadd, 1) := by decide +kernel
theorem dX3_refuse_16 : decode cX3_refuse 16 = .ok (.iastore, 1) := by decide +kernel
theorem dX3_refuse_17 : decode cX3_refuse 17 = .ok (.aload_n 0, 1) := by decide +kernel
theorem dX3_refuse_18 : decode cX3_refuse 18 = .ok (.getfield 46, 3) := by decide +kernel
theorem dX3_refuse_21 : decode cX3_refuse 21 = .ok (.iload_n 1, 1) := by decide +kernel
theorem dX3_refuse_22 : decode cX3_refuse 22 = .ok (.dup2, 1) := by decide +kernel
theorem dX3_refuse_23 : decode cX3_refuse 23 = .ok (.iaload, 1) := by decide +kernel
theorem dX3_refuse_24 : decode cX3_refuse 24 = .ok (.iconst 1, 1) := by decide +kernel
theorem dX3_refuse_25 : decode cX3_refuse 25 = .ok (.iadd, 1) := by decide +kernel
theorem dX3_refuse_26 : decode cX3_refuse 26 = .ok (.iastore, 1) := by decide +kernel
theorem dX3_refuse_27 : decode cX3_refuse 27 = .ok (.aload_n 0, 1) := by decide +kernel
theorem dX3_refuse_28 : decode cX3_refuse 28 = .ok (.getfield 55, 3) := by decide +kernel
theorem dX3_refuse_31 : decode cX3_refuse 31 = .ok (.iload 4, 2) := by decide +kernel
theorem dX3_refuse_33 : decode cX3_refuse 33 = .ok (.dup2, 1) := by decide +kernel
theorem dX3_refuse_34 : decode cX3_refuse 34 = .ok (.iaload, 1) := by decide +kernel
theorem dX3_refuse_35 : decode cX3_refuse 35 = .ok (.iconst 1, 1) := by decide +kernel
theorem dX3_refuse_36 : decode cX3_refuse 36 = .ok (.iadd, 1) := by decide +kernel
theorem dX3_refuse_37 : decode cX3_refuse 37 = .ok (.iastore, 1) := by decide +kernel
theorem dX3_refuse_38 : decode cX3_refuse 38 = .ok (.aload_n 0, 1) := by decide +kernel
theorem dX3_refuse_39 : decode cX3_refuse 39 = .ok (.iload_n 1, 1) := by decide +kernel
theorem dX3_refuse_40 : decode cX3_refuse 40 = .ok (.invokevirtual 112, 3) := by decide +kernel
theorem dX3_refuse_43 : decode cX3_refuse 43 = .ok (.iload 4, 2) := by decide +kernel
theorem dX3_refuse_45 : decode cX3_refuse 45 = .ok (.iconst 4, 1) := by decide +kernel
theorem dX3_refuse_46 : decode cX3_refuse 46 = .ok (.if_icmp .ne 9, 3) := by decide +kernel
theorem dX3_refuse_49 : decode cX3_refuse 49 = .ok (.aload_n 0, 1) := by decide +kernel
theorem dX3_refuse_50 : decode cX3_refuse 50 = .ok (.iload_n 2, 1) := by decide +kernel
theorem dX3_refuse_51 : decode cX3_refuse 51 = .ok (.iconst 2, 1) := by decide +kernel
theorem dX3_refuse_52 : decode cX3_refuse 52 = .ok (.invokevirtual 108, 3) := by decide +kernel
theorem dX3_refuse_55 : decode cX3_refuse 55 = .ok (.return_, 1) := by decide +kernel
theorem dX3_takeCredit_0 : decode cX3_takeCredit 0 = .ok (.iload_n 1, 1) := by decide +kernel
theorem dX3_takeCredit_1 : decode cX3_takeCredit 1 = .ok (.bipush (-6), 2) := by decide +kernel
theorem dX3_takeCredit_3 : decode cX3_takeCredit 3 = .ok (.if_icmp .eq 21, 3) := by decide +kernel
theorem dX3_takeCredit_6 : decode cX3_takeCredit 6 = .ok (.aload_n 0, 1) := by decide +kernel
theorem dX3_takeCredit_7 : decode cX3_takeCredit 7 = .ok (.getfield 34, 3) := by decide +kernel
theorem dX3_takeCredit_10 : decode cX3_takeCredit 10 = .ok (.iload_n 1, 1) := by decide +kernel
theorem dX3_takeCredit_11 : decode cX3_takeCredit 11 = .ok (.iconst 0, 1) := by decide +kernel
theorem dX3_takeCredit_12 : decode cX3_takeCredit 12 = .ok (.aload_n 0, 1) := by decide +kernel
theorem dX3_takeCredit_13 : decode cX3_takeCredit 13 = .ok (.getfield 34, 3) := by decide +kernel
theorem dX3_takeCredit_16 : decode cX3_takeCredit 16 = .ok (.iload_n 1, 1) := by decide +kernel
theorem dX3_takeCredit_17 : decode cX3_takeCredit 17 = .ok (.iaload, 1) := by decide +kernel
theorem dX3_takeCredit_18 : decode cX3_takeCredit 18 = .ok (.iload_n 2, 1) := by decide +kernel
theorem dX3_takeCredit_19 : decode cX3_takeCredit 19 = .ok (.isub, 1) := by decide +kernel
theorem dX3_takeCredit_20 : decode cX3_takeCredit 20 = .ok (.invokestatic 79, 3) := by decide +kernel
theorem dX3_takeCredit_23 : decode cX3_takeCredit 23 = .ok (.iastore, 1) := by decide +kernel
theorem dX3_takeCredit_24 : decode cX3_takeCredit 24 = .ok (.return_, 1) := by decide +kernel
set_option maxRecDepth 20000 in
theorem ggX3_angerMasterOf_X4_classOf : GoodIn wsX3_angerMasterOf wsX4_classOf := goodIn_r _ [8] (by decide +kernel) (by decide +kernel)
set_option maxRecDepth 20000 in
theorem gX3_angerMasterOf_X4_classOf_n73 : GoodIn wsX3_angerMasterOf (wsX4_classOf) := ggX3_angerMasterOf_X4_classOf
theorem dX3_angerMasterOf_0 : decode cX3_angerMasterOf 0 = .ok (.iload_n 1, 1) := by decide +kernel
theorem dX3_angerMasterOf_1 : decode cX3_angerMasterOf 1 = .ok (.invokestatic 73, 3) := by decide +kernel
theorem dX3_angerMasterOf_4 : decode cX3_angerMasterOf 4 = .ok (.istore_n 2, 1) := by decide +kernel
theorem dX3_angerMasterOf_5 : decode cX3_angerMasterOf 5 = .ok (.aload_n 0, 1) := by decide +kernel
theorem dX3_angerMasterOf_6 : decode cX3_angerMasterOf 6 = .ok (.getfield 52, 3) := by decide +kernel
theorem dX3_angerMasterOf_9 : decode cX3_angerMasterOf 9 = .ok (.iload_n 2, 1) := by decide +kernel
theorem dX3_angerMasterOf_10 : decode cX3_angerMasterOf 10 = .ok (.bipush 9, 2) := by decide +kernel
theorem dX3_angerMasterOf_12 : decode cX3_angerMasterOf 12 = .ok (.aload_n 0, 1) := by decide +kernel
theorem dX3_angerMasterOf_13 : decode cX3_angerMasterOf 13 = .ok (.getfield 52, 3) := by decide +kernel
theorem dX3_angerMasterOf_16 : decode cX3_angerMasterOf 16 = .ok (.iload_n 2, 1) := by decide +kernel
theorem dX3_angerMasterOf_17 : decode cX3_angerMasterOf 17 = .ok (.iaload, 1) := by decide +kernel
theorem dX3_angerMasterOf_18 : decode cX3_angerMasterOf 18 = .ok (.iconst 1, 1) := by decide +kernel
theorem dX3_angerMasterOf_19 : decode cX3_angerMasterOf 19 = .ok (.iadd, 1) := by decide +kernel
theorem dX3_angerMasterOf_20 : decode cX3_angerMasterOf 20 = .ok (.invokestatic 116, 3) := by decide +kernel
theorem dX3_angerMasterOf_23 : decode cX3_angerMasterOf 23 = .ok (.iastore, 1) := by decide +kernel
theorem dX3_angerMasterOf_24 : decode cX3_angerMasterOf 24 = .ok (.return_, 1) := by decide +kernel
theorem dX3_beginNextTerm_0 : decode cX3_beginNextTerm 0 = .ok (.iconst 0, 1) := by decide +kernel
theorem dX3_beginNextTerm_1 : decode cX3_beginNextTerm 1 = .ok (.istore_n 1, 1) := by decide +kernel
theorem dX3_beginNextTerm_2 : decode cX3_beginNextTerm 2 = .ok (.iload_n 1, 1) := by decide +kernel
theorem dX3_beginNextTerm_3 : decode cX3_beginNextTerm 3 = .ok (.aload_n 0, 1) := by decide +kernel
theorem dX3_beginNextTerm_4 : decode cX3_beginNextTerm 4 = .ok (.getfield 31, 3) := by decide +kernel
theorem dX3_beginNextTerm_7 : decode cX3_beginNextTerm 7 = .ok (.arraylength, 1) := by decide +kernel
theorem dX3_beginNextTerm_8 : decode cX3_beginNextTerm 8 = .ok (.if_icmp .ge 16, 3) := by decide +kernel
theorem dX3_beginNextTerm_11 : decode cX3_beginNextTerm 11 = .ok (.aload_n 0, 1) := by decide +kernel
theorem dX3_beginNextTerm_12 : decode cX3_beginNextTerm 12 = .ok (.getfield 31, 3) := by decide +kernel
theorem dX3_beginNextTerm_15 : decode cX3_beginNextTerm 15 = .ok (.iload_n 1, 1) := by decide +kernel
theorem dX3_beginNextTerm_16 : decode cX3_beginNextTerm 16 = .ok (.iconst 0, 1) := by decide +kernel
theorem dX3_beginNextTerm_17 : decode cX3_beginNextTerm 17 = .ok (.iastore, 1) := by decide +kernel
theorem dX3_beginNextTerm_18 : decode cX3_beginNextTerm 18 = .ok (.iinc 1 1, 3) := by decide +kernel
theorem dX3_beginNextTerm_21 : decode cX3_beginNextTerm 21 = .ok (.goto (-19), 3) := by decide +kernel
theorem dX3_beginNextTerm_24 : decode cX3_beginNextTerm 24 = .ok (.iconst 0, 1) := by decide +kernel
theorem dX3_beginNextTerm_25 : decode cX3_beginNextTerm 25 = .ok (.istore_n 1, 1) := by decide +kernel
theorem dX3_beginNextTerm_26 : decode cX3_beginNextTerm 26 = .ok (.iload_n 1, 1) := by decide +kernel
theorem dX3_beginNextTerm_27 : decode cX3_beginNextTerm 27 = .ok (.bipush 10, 2) := by decide +kernel
theorem dX3_beginNextTerm_29 : decode cX3_beginNextTerm 29 = .ok (.if_icmp .ge 36, 3) := by decide +kernel
theorem dX3_beginNextTerm_32 : decode cX3_beginNextTerm 32 = .ok (.aload_n 0, 1) := by decide +kernel
theorem dX3_beginNextTerm_33 : decode cX3_beginNextTerm 33 = .ok (.getfield 49, 3) := by decide +kernel
theorem dX3_beginNextTerm_36 : decode cX3_beginNextTerm 36 = .ok (.iload_n 1, 1) := by decide +kernel
theorem dX3_beginNextTerm_37 : decode cX3_beginNextTerm 37 = .ok (.bipush (-6), 2) := by decide +kernel
theorem dX3_beginNextTerm_39 : decode cX3_beginNextTerm 39 = .ok (.iastore, 1) := by decide +kernel
theorem dX3_beginNextTerm_40 : decode cX3_beginNextTerm 40 = .ok (.aload_n 0, 1) := by decide +kernel
theorem dX3_beginNextTerm_41 : decode cX3_beginNextTerm 41 = .ok (.getfield 34, 3) := by decide +kernel
theorem dX3_beginNextTerm_44 : decode cX3_beginNextTerm 44 = .ok (.iload_n 1, 1) := by decide +kernel
theorem dX3_beginNextTerm_45 : decode cX3_beginNextTerm 45 = .ok (.bipush 9, 2) := by decide +kernel
theorem dX3_beginNextTerm_47 : decode cX3_beginNextTerm 47 = .ok (.aload_n 0, 1) := by decide +kernel
theorem dX3_beginNextTerm_48 : decode cX3_beginNextTerm 48 = .ok (.getfield 34, 3) := by decide +kernel
theorem dX3_beginNextTerm_51 : decode cX3_beginNextTerm 51 = .ok (.iload_n 1, 1) := by decide +kernel
theorem dX3_beginNextTerm_52 : decode cX3_beginNextTerm 52 = .ok (.iaload, 1) := by decide +kernel
theorem dX3_beginNextTerm_53 : decode cX3_beginNextTerm 53 = .ok (.iconst 2, 1) := by decide +kernel
theorem dX3_beginNextTerm_54 : decode cX3_beginNextTerm 54 = .ok (.iadd, 1) := by decide +kernel
theorem dX3_beginNextTerm_55 : decode cX3_beginNextTerm 55 = .ok (.invokestatic 116, 3) := by decide +kernel
theorem dX3_beginNextTerm_58 : decode cX3_beginNextTerm 58 = .ok (.iastore, 1) := by decide +kernel
theorem dX3_beginNextTerm_59 : decode cX3_beginNextTerm 59 = .ok (.iinc 1 1, 3) := by decide +kernel
theorem dX3_beginNextTerm_62 : decode cX3_beginNextTerm 62 = .ok (.goto (-36), 3) := by decide +kernel
theorem dX3_beginNextTerm_65 : decode cX3_beginNextTerm 65 = .ok (.iconst 0, 1) := by decide +kernel
theorem dX3_beginNextTerm_66 : decode cX3_beginNextTerm 66 = .ok (.istore_n 1, 1) := by decide +kernel
theorem dX3_beginNextTerm_67 : decode cX3_beginNextTerm 67 = .ok (.iload_n 1, 1) := by decide +kernel
theorem dX3_beginNextTerm_68 : decode cX3_beginNextTerm 68 = .ok (.iconst 5, 1) := by decide +kernel
theorem dX3_beginNextTerm_69 : decode cX3_beginNextTerm 69 = .ok (.if_icmp .ge 23, 3) := by decide +kernel
theorem dX3_beginNextTerm_72 : decode cX3_beginNextTerm 72 = .ok (.aload_n 0, 1) := by decide +kernel
theorem dX3_beginNextTerm_73 : decode cX3_beginNextTerm 73 = .ok (.getfield 52, 3) := by decide +kernel
theorem dX3_beginNextTerm_76 : decode cX3_beginNextTerm 76 = .ok (.iload_n 1, 1) := by decide +kernel
theorem dX3_beginNextTerm_77 : decode cX3_beginNextTerm 77 = .ok (.aload_n 0, 1) := by decide +kernel
theorem dX3_beginNextTerm_78 : decode cX3_beginNextTerm 78 = .ok (.getfield 52, 3) := by decide +kernel
theorem dX3_beginNextTerm_81 : decode cX3_beginNextTerm 81 = .ok (.iload_n 1, 1) := by decide +kernel
theorem dX3_beginNextTerm_82 : decode cX3_beginNextTerm 82 = .ok (.iaload, 1) := by decide +kernel
theorem dX3_beginNextTerm_83 : decode cX3_beginNextTerm 83 = .ok (.iconst 2, 1) := by decide +kernel
theorem dX3_beginNextTerm_84 : decode cX3_beginNextTerm 84 = .ok (.idiv, 1) := by decide +kernel
theorem dX3_beginNextTerm_85 : decode cX3_beginNextTerm 85 = .ok (.iastore, 1) := by decide +kernel
theorem dX3_beginNextTerm_86 : decode cX3_beginNextTerm 86 = .ok (.iinc 1 1, 3) := by decide +kernel
theorem dX3_beginNextTerm_89 : decode cX3_beginNextTerm 89 = .ok (.goto (-22), 3) := by decide +kernel
theorem dX3_beginNextTerm_92 : decode cX3_beginNextTerm 92 = .ok (.aload_n 0, 1) := by decide +kernel
theorem dX3_beginNextTerm_93 : decode cX3_beginNextTerm 93 = .ok (.dup, 1) := by decide +kernel
theorem dX3_beginNextTerm_94 : decode cX3_beginNextTerm 94 = .ok (.getfield 58, 3) := by decide +kernel
theorem dX3_beginNextTerm_97 : decode cX3_beginNextTerm 97 = .ok (.iconst 1, 1) := by decide +kernel
theorem dX3_beginNextTerm_98 : decode cX3_beginNextTerm 98 = .ok (.iadd, 1) := by decide +kernel
theorem dX3_beginNextTerm_99 : decode cX3_beginNextTerm 99 = .ok (.putfield 58, 3) := by decide +kernel
theorem dX3_beginNextTerm_102 : decode cX3_beginNextTerm 102 = .ok (.return_, 1) := by decide +kernel
