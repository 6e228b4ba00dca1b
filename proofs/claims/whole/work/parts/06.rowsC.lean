theorem inlX5 : ∀ w ∈ wsX50, w ∈ wsL_law := fun _ h => List.mem_append_left _ (List.mem_append_left _ (List.mem_append_left _ (List.mem_append_left _ (List.mem_append_left _ (List.mem_append_right _ h)))))
set_option maxRecDepth 20000 in
theorem ggX5_init_X5_lay : GoodIn wsX5_init wsX5_lay := goodIn_r _ [15, 5, 16, 17, 18, 19, 20, 21, 22, 23, 24, 25, 26, 27] (by decide +kernel) (by decide +kernel)
set_option maxRecDepth 20000 in
theorem gX5_init_X5_lay : GoodIn wsX5_init (wsV RX5 26 RX5 yX5_lay wsX5_lay) := goodIn_app (goodIn_of _ (by decide +kernel)) ggX5_init_X5_lay
theorem dX5_init_0 : decode cX5_init 0 = .ok (.aload_n 0, 1) := by decide +kernel
theorem dX5_init_1 : decode cX5_init 1 = .ok (.invokespecial 1, 3) := by decide +kernel
theorem dX5_init_4 : decode cX5_init 4 = .ok (.aload_n 0, 1) := by decide +kernel
theorem dX5_init_5 : decode cX5_init 5 = .ok (.sipush 234, 3) := by decide +kernel
theorem dX5_init_8 : decode cX5_init 8 = .ok (.newarray .int, 2) := by decide +kernel
theorem dX5_init_10 : decode cX5_init 10 = .ok (.putfield 7, 3) := by decide +kernel
theorem dX5_init_13 : decode cX5_init 13 = .ok (.aload_n 0, 1) := by decide +kernel
theorem dX5_init_14 : decode cX5_init 14 = .ok (.sipush 1404, 3) := by decide +kernel
theorem dX5_init_17 : decode cX5_init 17 = .ok (.newarray .int, 2) := by decide +kernel
theorem dX5_init_19 : decode cX5_init 19 = .ok (.putfield 13, 3) := by decide +kernel
theorem dX5_init_22 : decode cX5_init 22 = .ok (.aload_n 0, 1) := by decide +kernel
theorem dX5_init_23 : decode cX5_init 23 = .ok (.sipush 468, 3) := by decide +kernel
theorem dX5_init_26 : decode cX5_init 26 = .ok (.newarray .int, 2) := by decide +kernel
theorem dX5_init_28 : decode cX5_init 28 = .ok (.putfield 16, 3) := by decide +kernel
theorem dX5_init_31 : decode cX5_init 31 = .ok (.aload_n 0, 1) := by decide +kernel
theorem dX5_init_32 : decode cX5_init 32 = .ok (.iconst 2, 1) := by decide +kernel
theorem dX5_init_33 : decode cX5_init 33 = .ok (.newarray .boolean, 2) := by decide +kernel
theorem dX5_init_35 : decode cX5_init 35 = .ok (.putfield 19, 3) := by decide +kernel
theorem dX5_init_38 : decode cX5_init 38 = .ok (.aload_n 0, 1) := by decide +kernel
theorem dX5_init_39 : decode cX5_init 39 = .ok (.bipush 60, 2) := by decide +kernel
theorem dX5_init_41 : decode cX5_init 41 = .ok (.newarray .int, 2) := by decide +kernel
theorem dX5_init_43 : decode cX5_init 43 = .ok (.putfield 23, 3) := by decide +kernel
theorem dX5_init_46 : decode cX5_init 46 = .ok (.aload_n 0, 1) := by decide +kernel
theorem dX5_init_47 : decode cX5_init 47 = .ok (.getfield 7, 3) := by decide +kernel
theorem dX5_init_50 : decode cX5_init 50 = .ok (.iconst 0, 1) := by decide +kernel
theorem dX5_init_51 : decode cX5_init 51 = .ok (.bipush 40, 2) := by decide +kernel
theorem dX5_init_53 : decode cX5_init 53 = .ok (.iastore, 1) := by decide +kernel
theorem dX5_init_54 : decode cX5_init 54 = .ok (.aload_n 0, 1) := by decide +kernel
theorem dX5_init_55 : decode cX5_init 55 = .ok (.getfield 7, 3) := by decide +kernel
theorem dX5_init_58 : decode cX5_init 58 = .ok (.iconst 1, 1) := by decide +kernel
theorem dX5_init_59 : decode cX5_init 59 = .ok (.bipush 25, 2) := by decide +kernel
theorem dX5_init_61 : decode cX5_init 61 = .ok (.iastore, 1) := by decide +kernel
theorem dX5_init_62 : decode cX5_init 62 = .ok (.aload_n 0, 1) := by decide +kernel
theorem dX5_init_63 : decode cX5_init 63 = .ok (.getfield 7, 3) := by decide +kernel
theorem dX5_init_66 : decode cX5_init 66 = .ok (.iconst 2, 1) := by decide +kernel
theorem dX5_init_67 : decode cX5_init 67 = .ok (.iconst 3, 1) := by decide +kernel
theorem dX5_init_68 : decode cX5_init 68 = .ok (.iastore, 1) := by decide +kernel
theorem dX5_init_69 : decode cX5_init 69 = .ok (.aload_n 0, 1) := by decide +kernel
theorem dX5_init_70 : decode cX5_init 70 = .ok (.getfield 7, 3) := by decide +kernel
theorem dX5_init_73 : decode cX5_init 73 = .ok (.iconst 3, 1) := by decide +kernel
theorem dX5_init_74 : decode cX5_init 74 = .ok (.iconst 5, 1) := by decide +kernel
theorem dX5_init_75 : decode cX5_init 75 = .ok (.iastore, 1) := by decide +kernel
theorem dX5_init_76 : decode cX5_init 76 = .ok (.aload_n 0, 1) := by decide +kernel
theorem dX5_init_77 : decode cX5_init 77 = .ok (.getfield 7, 3) := by decide +kernel
theorem dX5_init_80 : decode cX5_init 80 = .ok (.iconst 4, 1) := by decide +kernel
theorem dX5_init_81 : decode cX5_init 81 = .ok (.iconst 4, 1) := by decide +kernel
theorem dX5_init_82 : decode cX5_init 82 = .ok (.iastore, 1) := by decide +kernel
theorem dX5_init_83 : decode cX5_init 83 = .ok (.iconst 0, 1) := by decide +kernel
theorem dX5_init_84 : decode cX5_init 84 = .ok (.istore_n 1, 1) := by decide +kernel
theorem dX5_init_85 : decode cX5_init 85 = .ok (.iload_n 1, 1) := by decide +kernel
theorem dX5_init_86 : decode cX5_init 86 = .ok (.bipush 10, 2) := by decide +kernel
theorem dX5_init_88 : decode cX5_init 88 = .ok (.if_icmp .ge 24, 3) := by decide +kernel
theorem dX5_init_91 : decode cX5_init 91 = .ok (.aload_n 0, 1) := by decide +kernel
theorem dX5_init_92 : decode cX5_init 92 = .ok (.iload_n 1, 1) := by decide +kernel
theorem dX5_init_93 : decode cX5_init 93 = .ok (.iconst 0, 1) := by decide +kernel
theorem dX5_init_94 : decode cX5_init 94 = .ok (.iconst 5, 1) := by decide +kernel
theorem dX5_init_95 : decode cX5_init 95 = .ok (.invokevirtual 26, 3) := by decide +kernel
theorem dX5_init_98 : decode cX5_init 98 = .ok (.aload_n 0, 1) := by decide +kernel
theorem dX5_init_99 : decode cX5_init 99 = .ok (.iload_n 1, 1) := by decide +kernel
theorem dX5_init_100 : decode cX5_init 100 = .ok (.iconst 4, 1) := by decide +kernel
theorem dX5_init_101 : decode cX5_init 101 = .ok (.bipush (-6), 2) := by decide +kernel
theorem dX5_init_103 : decode cX5_init 103 = .ok (.invokevirtual 26, 3) := by decide +kernel
theorem dX5_init_106 : decode cX5_init 106 = .ok (.iinc 1 1, 3) := by decide +kernel
theorem dX5_init_109 : decode cX5_init 109 = .ok (.goto (-24), 3) := by decide +kernel
theorem dX5_init_112 : decode cX5_init 112 = .ok (.return_, 1) := by decide +kernel
theorem dX5_in_0 : decode cX5_in 0 = .ok (.iload_n 0, 1) := by decide +kernel
theorem dX5_in_1 : decode cX5_in 1 = .ok (.iload_n 1, 1) := by decide +kernel
theorem dX5_in_2 : decode cX5_in 2 = .ok (.if_icmp .lt 12, 3) := by decide +kernel
theorem dX5_in_5 : decode cX5_in 5 = .ok (.iload_n 0, 1) := by decide +kernel
theorem dX5_in_6 : decode cX5_in 6 = .ok (.iload_n 2, 1) := by decide +kernel
theorem dX5_in_7 : decode cX5_in 7 = .ok (.if_icmp .gt 7, 3) := by decide +kernel
theorem dX5_in_10 : decode cX5_in 10 = .ok (.iconst 1, 1) := by decide +kernel
theorem dX5_in_11 : decode cX5_in 11 = .ok (.goto 4, 3) := by decide +kernel
theorem dX5_in_14 : decode cX5_in 14 = .ok (.iconst 0, 1) := by decide +kernel
theorem dX5_in_15 : decode cX5_in 15 = .ok (.ireturn, 1) := by decide +kernel
theorem dX5_of_0 : decode cX5_of 0 = .ok (.aload_n 0, 1) := by decide +kernel
theorem dX5_of_1 : decode cX5_of 1 = .ok (.getfield 7, 3) := by decide +kernel
theorem dX5_of_4 : decode cX5_of 4 = .ok (.bipush 54, 2) := by decide +kernel
theorem dX5_of_6 : decode cX5_of 6 = .ok (.bipush 6, 2) := by decide +kernel
theorem dX5_of_8 : decode cX5_of 8 = .ok (.iload_n 1, 1) := by decide +kernel
theorem dX5_of_9 : decode cX5_of 9 = .ok (.imul, 1) := by decide +kernel
theorem dX5_of_10 : decode cX5_of 10 = .ok (.iadd, 1) := by decide +kernel
theorem dX5_of_11 : decode cX5_of 11 = .ok (.iload_n 2, 1) := by decide +kernel
theorem dX5_of_12 : decode cX5_of 12 = .ok (.iadd, 1) := by decide +kernel
theorem dX5_of_13 : decode cX5_of 13 = .ok (.iaload, 1) := by decide +kernel
theorem dX5_of_14 : decode cX5_of 14 = .ok (.ireturn, 1) := by decide +kernel
theorem dX5_lay_0 : decode cX5_lay 0 = .ok (.aload_n 0, 1) := by decide +kernel
theorem dX5_lay_1 : decode cX5_lay 1 = .ok (.getfield 7, 3) := by decide +kernel
theorem dX5_lay_4 : decode cX5_lay 4 = .ok (.bipush 54, 2) := by decide +kernel
theorem dX5_lay_6 : decode cX5_lay 6 = .ok (.bipush 6, 2) := by decide +kernel
theorem dX5_lay_8 : decode cX5_lay 8 = .ok (.iload_n 1, 1) := by decide +kernel
theorem dX5_lay_9 : decode cX5_lay 9 = .ok (.imul, 1) := by decide +kernel
theorem dX5_lay_10 : decode cX5_lay 10 = .ok (.iadd, 1) := by decide +kernel
theorem dX5_lay_11 : decode cX5_lay 11 = .ok (.iload_n 2, 1) := by decide +kernel
theorem dX5_lay_12 : decode cX5_lay 12 = .ok (.iadd, 1) := by decide +kernel
theorem dX5_lay_13 : decode cX5_lay 13 = .ok (.iload_n 3, 1) := by decide +kernel
theorem dX5_lay_14 : decode cX5_lay 14 = .ok (.iastore, 1) := by decide +kernel
theorem dX5_lay_15 : decode cX5_lay 15 = .ok (.return_, 1) := by decide +kernel
theorem dX5_ofExcuse_0 : decode cX5_ofExcuse 0 = .ok (.aload_n 0, 1) := by decide +kernel
theorem dX5_ofExcuse_1 : decode cX5_ofExcuse 1 = .ok (.getfield 7, 3) := by decide +kernel
theorem dX5_ofExcuse_4 : decode cX5_ofExcuse 4 = .ok (.bipush 18, 2) := by decide +kernel
theorem dX5_ofExcuse_6 : decode cX5_ofExcuse 6 = .ok (.iconst 3, 1) := by decide +kernel
theorem dX5_ofExcuse_7 : decode cX5_ofExcuse 7 = .ok (.iload_n 1, 1) := by decide +kernel
theorem dX5_ofExcuse_8 : decode cX5_ofExcuse 8 = .ok (.imul, 1) := by decide +kernel
theorem dX5_ofExcuse_9 : decode cX5_ofExcuse 9 = .ok (.iadd, 1) := by decide +kernel
theorem dX5_ofExcuse_10 : decode cX5_ofExcuse 10 = .ok (.iload_n 2, 1) := by decide +kernel
theorem dX5_ofExcuse_11 : decode cX5_ofExcuse 11 = .ok (.iadd, 1) := by decide +kernel
theorem dX5_ofExcuse_12 : decode cX5_ofExcuse 12 = .ok (.iaload, 1) := by decide +kernel
theorem dX5_ofExcuse_13 : decode cX5_ofExcuse 13 = .ok (.ireturn, 1) := by decide +kernel
set_option maxRecDepth 20000 in
theorem ggX5_isExcuse_X5_in : GoodIn wsX5_isExcuse wsX5_in := goodIn_r _ [5] (by decide +kernel) (by decide +kernel)
set_option maxRecDepth 20000 in
theorem gX5_isExcuse_X5_in : GoodIn wsX5_isExcuse (va_wsS RX5 30 yX5_in wsX5_in) := goodIn_app (goodIn_of _ (by decide +kernel)) ggX5_isExcuse_X5_in
theorem dX5_isExcuse_0 : decode cX5_isExcuse 0 = .ok (.iload_n 1, 1) := by decide +kernel
theorem dX5_isExcuse_1 : decode cX5_isExcuse 1 = .ok (.iconst 0, 1) := by decide +kernel
theorem dX5_isExcuse_2 : decode cX5_isExcuse 2 = .ok (.aload_n 0, 1) := by decide +kernel
theorem dX5_isExcuse_3 : decode cX5_isExcuse 3 = .ok (.getfield 7, 3) := by decide +kernel
theorem dX5_isExcuse_6 : decode cX5_isExcuse 6 = .ok (.iconst 5, 1) := by decide +kernel
theorem dX5_isExcuse_7 : decode cX5_isExcuse 7 = .ok (.iaload, 1) := by decide +kernel
theorem dX5_isExcuse_8 : decode cX5_isExcuse 8 = .ok (.iconst 1, 1) := by decide +kernel
theorem dX5_isExcuse_9 : decode cX5_isExcuse 9 = .ok (.isub, 1) := by decide +kernel
theorem dX5_isExcuse_10 : decode cX5_isExcuse 10 = .ok (.invokestatic 30, 3) := by decide +kernel
theorem dX5_isExcuse_13 : decode cX5_isExcuse 13 = .ok (.ireturn, 1) := by decide +kernel
set_option maxRecDepth 20000 in
theorem ggX5_isPupil_X5_in : GoodIn wsX5_isPupil wsX5_in := goodIn_r _ [4] (by decide +kernel) (by decide +kernel)
set_option maxRecDepth 20000 in
theorem gX5_isPupil_X5_in : GoodIn wsX5_isPupil (va_wsS RX5 30 yX5_in wsX5_in) := goodIn_app (goodIn_of _ (by decide +kernel)) ggX5_isPupil_X5_in
theorem dX5_isPupil_0 : decode cX5_isPupil 0 = .ok (.iload_n 0, 1) := by decide +kernel
theorem dX5_isPupil_1 : decode cX5_isPupil 1 = .ok (.iconst 0, 1) := by decide +kernel
theorem dX5_isPupil_2 : decode cX5_isPupil 2 = .ok (.bipush 9, 2) := by decide +kernel
theorem dX5_isPupil_4 : decode cX5_isPupil 4 = .ok (.invokestatic 30, 3) := by decide +kernel
theorem dX5_isPupil_7 : decode cX5_isPupil 7 = .ok (.ireturn, 1) := by decide +kernel
theorem dX5_copyState_0 : decode cX5_copyState 0 = .ok (.iconst 0, 1) := by decide +kernel
theorem dX5_copyState_1 : decode cX5_copyState 1 = .ok (.istore 4, 2) := by decide +kernel
theorem dX5_copyState_3 : decode cX5_copyState 3 = .ok (.iload 4, 2) := by decide +kernel
theorem dX5_copyState_5 : decode cX5_copyState 5 = .ok (.sipush 234, 3) := by decide +kernel
theorem dX5_copyState_8 : decode cX5_copyState 8 = .ok (.if_icmp .ge 21, 3) := by decide +kernel
theorem dX5_copyState_11 : decode cX5_copyState 11 = .ok (.aload_n 2, 1) := by decide +kernel
theorem dX5_copyState_12 : decode cX5_copyState 12 = .ok (.iload_n 3, 1) := by decide +kernel
theorem dX5_copyState_13 : decode cX5_copyState 13 = .ok (.iload 4, 2) := by decide +kernel
theorem dX5_copyState_15 : decode cX5_copyState 15 = .ok (.iadd, 1) := by decide +kernel
theorem dX5_copyState_16 : decode cX5_copyState 16 = .ok (.aload_n 0, 1) := by decide +kernel
theorem dX5_copyState_17 : decode cX5_copyState 17 = .ok (.iload_n 1, 1) := by decide +kernel
theorem dX5_copyState_18 : decode cX5_copyState 18 = .ok (.iload 4, 2) := by decide +kernel
theorem dX5_copyState_20 : decode cX5_copyState 20 = .ok (.iadd, 1) := by decide +kernel
theorem dX5_copyState_21 : decode cX5_copyState 21 = .ok (.iaload, 1) := by decide +kernel
theorem dX5_copyState_22 : decode cX5_copyState 22 = .ok (.iastore, 1) := by decide +kernel
theorem dX5_copyState_23 : decode cX5_copyState 23 = .ok (.iinc 4 1, 3) := by decide +kernel
theorem dX5_copyState_26 : decode cX5_copyState 26 = .ok (.goto (-23), 3) := by decide +kernel
theorem dX5_copyState_29 : decode cX5_copyState 29 = .ok (.return_, 1) := by decide +kernel
set_option maxRecDepth 20000 in
theorem ggX5_record_X5_copyState : GoodIn wsX5_record wsX5_copyState := goodIn_r _ [7] (by decide +kernel) (by decide +kernel)
set_option maxRecDepth 20000 in
theorem gX5_record_X5_copyState : GoodIn wsX5_record (va_wsS RX5 38 yX5_copyState wsX5_copyState) := goodIn_app (goodIn_of _ (by decide +kernel)) ggX5_record_X5_copyState
theorem dX5_record_0 : decode cX5_record 0 = .ok (.aload_n 0, 1) := by decide +kernel
theorem dX5_record_1 : decode cX5_record 1 = .ok (.getfield 34, 3) := by decide +kernel
theorem dX5_record_4 : decode cX5_record 4 = .ok (.bipush 6, 2) := by decide +kernel
theorem dX5_record_6 : decode cX5_record 6 = .ok (.if_icmp .ne 44, 3) := by decide +kernel
theorem dX5_record_9 : decode cX5_record 9 = .ok (.iconst 0, 1) := by decide +kernel
theorem dX5_record_10 : decode cX5_record 10 = .ok (.istore_n 1, 1) := by decide +kernel
theorem dX5_record_11 : decode cX5_record 11 = .ok (.iload_n 1, 1) := by decide +kernel
theorem dX5_record_12 : decode cX5_record 12 = .ok (.sipush 1170, 3) := by decide +kernel
theorem dX5_record_15 : decode cX5_record 15 = .ok (.if_icmp .ge 25, 3) := by decide +kernel
theorem dX5_record_18 : decode cX5_record 18 = .ok (.aload_n 0, 1) := by decide +kernel
theorem dX5_record_19 : decode cX5_record 19 = .ok (.getfield 13, 3) := by decide +kernel
theorem dX5_record_22 : decode cX5_record 22 = .ok (.iload_n 1, 1) := by decide +kernel
theorem dX5_record_23 : decode cX5_record 23 = .ok (.aload_n 0, 1) := by decide +kernel
theorem dX5_record_24 : decode cX5_record 24 = .ok (.getfield 13, 3) := by decide +kernel
theorem dX5_record_27 : decode cX5_record 27 = .ok (.iload_n 1, 1) := by decide +kernel
theorem dX5_record_28 : decode cX5_record 28 = .ok (.sipush 234, 3) := by decide +kernel
theorem dX5_record_31 : decode cX5_record 31 = .ok (.iadd, 1) := by decide +kernel
theorem dX5_record_32 : decode cX5_record 32 = .ok (.iaload, 1) := by decide +kernel
theorem dX5_record_33 : decode cX5_record 33 = .ok (.iastore, 1) := by decide +kernel
theorem dX5_record_34 : decode cX5_record 34 = .ok (.iinc 1 1, 3) := by decide +kernel
theorem dX5_record_37 : decode cX5_record 37 = .ok (.goto (-26), 3) := by decide +kernel
theorem dX5_record_40 : decode cX5_record 40 = .ok (.aload_n 0, 1) := by decide +kernel
theorem dX5_record_41 : decode cX5_record 41 = .ok (.dup, 1) := by decide +kernel
theorem dX5_record_42 : decode cX5_record 42 = .ok (.getfield 34, 3) := by decide +kernel
theorem dX5_record_45 : decode cX5_record 45 = .ok (.iconst 1, 1) := by decide +kernel
theorem dX5_record_46 : decode cX5_record 46 = .ok (.isub, 1) := by decide +kernel
theorem dX5_record_47 : decode cX5_record 47 = .ok (.putfield 34, 3) := by decide +kernel
theorem dX5_record_50 : decode cX5_record 50 = .ok (.aload_n 0, 1) := by decide +kernel
theorem dX5_record_51 : decode cX5_record 51 = .ok (.getfield 7, 3) := by decide +kernel
theorem dX5_record_54 : decode cX5_record 54 = .ok (.iconst 0, 1) := by decide +kernel
theorem dX5_record_55 : decode cX5_record 55 = .ok (.aload_n 0, 1) := by decide +kernel
theorem dX5_record_56 : decode cX5_record 56 = .ok (.getfield 13, 3) := by decide +kernel
theorem dX5_record_59 : decode cX5_record 59 = .ok (.sipush 234, 3) := by decide +kernel
theorem dX5_record_62 : decode cX5_record 62 = .ok (.aload_n 0, 1) := by decide +kernel
theorem dX5_record_63 : decode cX5_record 63 = .ok (.getfield 34, 3) := by decide +kernel
theorem dX5_record_66 : decode cX5_record 66 = .ok (.imul, 1) := by decide +kernel
theorem dX5_record_67 : decode cX5_record 67 = .ok (.invokestatic 38, 3) := by decide +kernel
theorem dX5_record_70 : decode cX5_record 70 = .ok (.aload_n 0, 1) := by decide +kernel
theorem dX5_record_71 : decode cX5_record 71 = .ok (.dup, 1) := by decide +kernel
theorem dX5_record_72 : decode cX5_record 72 = .ok (.getfield 34, 3) := by decide +kernel
theorem dX5_record_75 : decode cX5_record 75 = .ok (.iconst 1, 1) := by decide +kernel
theorem dX5_record_76 : decode cX5_record 76 = .ok (.iadd, 1) := by decide +kernel
theorem dX5_record_77 : decode cX5_record 77 = .ok (.putfield 34, 3) := by decide +kernel
theorem dX5_record_80 : decode cX5_record 80 = .ok (.return_, 1) := by decide +kernel
set_option maxRecDepth 20000 in
theorem ggX5_undo_X5_copyState : GoodIn wsX5_undo wsX5_copyState := goodIn_r _ [7] (by decide +kernel) (by decide +kernel)
set_option maxRecDepth 20000 in
theorem gX5_undo_X5_copyState : GoodIn wsX5_undo (va_wsS RX5 38 yX5_copyState wsX5_copyState) := goodIn_app (goodIn_of _ (by decide +kernel)) ggX5_undo_X5_copyState
theorem dX5_undo_0 : decode cX5_undo 0 = .ok (.aload_n 0, 1) := by decide +kernel
theorem dX5_undo_1 : decode cX5_undo 1 = .ok (.getfield 34, 3) := by decide +kernel
theorem dX5_undo_4 : decode cX5_undo 4 = .ok (.ifCond .ne 6, 3) := by decide +kernel
theorem dX5_undo_7 : decode cX5_undo 7 = .ok (.bipush (-5), 2) := by decide +kernel
theorem dX5_undo_9 : decode cX5_undo 9 = .ok (.ireturn, 1) := by decide +kernel
theorem dX5_undo_10 : decode cX5_undo 10 = .ok (.aload_n 0, 1) := by decide +kernel
theorem dX5_undo_11 : decode cX5_undo 11 = .ok (.dup, 1) := by decide +kernel
theorem dX5_undo_12 : decode cX5_undo 12 = .ok (.getfield 34, 3) := by decide +kernel
theorem dX5_undo_15 : decode cX5_undo 15 = .ok (.iconst 1, 1) := by decide +kernel
theorem dX5_undo_16 : decode cX5_undo 16 = .ok (.isub, 1) := by decide +kernel
theorem dX5_undo_17 : decode cX5_undo 17 = .ok (.putfield 34, 3) := by decide +kernel
theorem dX5_undo_20 : decode cX5_undo 20 = .ok (.aload_n 0, 1) := by decide +kernel
theorem dX5_undo_21 : decode cX5_undo 21 = .ok (.getfield 13, 3) := by decide +kernel
theorem dX5_undo_24 : decode cX5_undo 24 = .ok (.sipush 234, 3) := by decide +kernel
theorem dX5_undo_27 : decode cX5_undo 27 = .ok (.aload_n 0, 1) := by decide +kernel
theorem dX5_undo_28 : decode cX5_undo 28 = .ok (.getfield 34, 3) := by decide +kernel
theorem dX5_undo_31 : decode cX5_undo 31 = .ok (.imul, 1) := by decide +kernel
theorem dX5_undo_32 : decode cX5_undo 32 = .ok (.aload_n 0, 1) := by decide +kernel
theorem dX5_undo_33 : decode cX5_undo 33 = .ok (.getfield 7, 3) := by decide +kernel
theorem dX5_undo_36 : decode cX5_undo 36 = .ok (.iconst 0, 1) := by decide +kernel
theorem dX5_undo_37 : decode cX5_undo 37 = .ok (.invokestatic 38, 3) := by decide +kernel
theorem dX5_undo_40 : decode cX5_undo 40 = .ok (.aload_n 0, 1) := by decide +kernel
theorem dX5_undo_41 : decode cX5_undo 41 = .ok (.getfield 34, 3) := by decide +kernel
theorem dX5_undo_44 : decode cX5_undo 44 = .ok (.ireturn, 1) := by decide +kernel
set_option maxRecDepth 20000 in
theorem ggX5_save_X5_in : GoodIn wsX5_save wsX5_in := goodIn_r _ [7] (by decide +kernel) (by decide +kernel)
set_option maxRecDepth 20000 in
theorem gX5_save_X5_in : GoodIn wsX5_save (va_wsS RX5 30 yX5_in wsX5_in) := goodIn_app (goodIn_of _ (by decide +kernel)) ggX5_save_X5_in
set_option maxRecDepth 20000 in
theorem ggX5_save_X5_copyState : GoodIn wsX5_save wsX5_copyState := goodIn_r _ [10] (by decide +kernel) (by decide +kernel)
set_option maxRecDepth 20000 in
theorem gX5_save_X5_copyState : GoodIn wsX5_save (va_wsS RX5 38 yX5_copyState wsX5_copyState) := goodIn_app (goodIn_of _ (by decide +kernel)) ggX5_save_X5_copyState
theorem dX5_save_0 : decode cX5_save 0 = .ok (.iload_n 1, 1) := by decide +kernel
theorem dX5_save_1 : decode cX5_save 1 = .ok (.iconst 0, 1) := by decide +kernel
theorem dX5_save_2 : decode cX5_save 2 = .ok (.iconst 1, 1) := by decide +kernel
theorem dX5_save_3 : decode cX5_save 3 = .ok (.invokestatic 30, 3) := by decide +kernel
theorem dX5_save_6 : decode cX5_save 6 = .ok (.ifCond .ne 6, 3) := by decide +kernel
theorem dX5_save_9 : decode cX5_save 9 = .ok (.bipush (-2), 2) := by decide +kernel
theorem dX5_save_11 : decode cX5_save 11 = .ok (.ireturn, 1) := by decide +kernel
theorem dX5_save_12 : decode cX5_save 12 = .ok (.aload_n 0, 1) := by decide +kernel
theorem dX5_save_13 : decode cX5_save 13 = .ok (.getfield 7, 3) := by decide +kernel
theorem dX5_save_16 : decode cX5_save 16 = .ok (.iconst 0, 1) := by decide +kernel
theorem dX5_save_17 : decode cX5_save 17 = .ok (.aload_n 0, 1) := by decide +kernel
theorem dX5_save_18 : decode cX5_save 18 = .ok (.getfield 16, 3) := by decide +kernel
theorem dX5_save_21 : decode cX5_save 21 = .ok (.sipush 234, 3) := by decide +kernel
theorem dX5_save_24 : decode cX5_save 24 = .ok (.iload_n 1, 1) := by decide +kernel
theorem dX5_save_25 : decode cX5_save 25 = .ok (.imul, 1) := by decide +kernel
theorem dX5_save_26 : decode cX5_save 26 = .ok (.invokestatic 38, 3) := by decide +kernel
theorem dX5_save_29 : decode cX5_save 29 = .ok (.aload_n 0, 1) := by decide +kernel
theorem dX5_save_30 : decode cX5_save 30 = .ok (.getfield 19, 3) := by decide +kernel
theorem dX5_save_33 : decode cX5_save 33 = .ok (.iload_n 1, 1) := by decide +kernel
theorem dX5_save_34 : decode cX5_save 34 = .ok (.iconst 1, 1) := by decide +kernel
theorem dX5_save_35 : decode cX5_save 35 = .ok (.bastore, 1) := by decide +kernel
theorem dX5_save_36 : decode cX5_save 36 = .ok (.aload_n 0, 1) := by decide +kernel
theorem dX5_save_37 : decode cX5_save 37 = .ok (.getfield 7, 3) := by decide +kernel
theorem dX5_save_40 : decode cX5_save 40 = .ok (.bipush 11, 2) := by decide +kernel
theorem dX5_save_42 : decode cX5_save 42 = .ok (.iaload, 1) := by decide +kernel
theorem dX5_save_43 : decode cX5_save 43 = .ok (.ireturn, 1) := by decide +kernel
set_option maxRecDepth 20000 in
theorem ggX5_restore_X5_in : GoodIn wsX5_restore wsX5_in := goodIn_r _ [7] (by decide +kernel) (by decide +kernel)
set_option maxRecDepth 20000 in
theorem gX5_restore_X5_in : GoodIn wsX5_restore (va_wsS RX5 30 yX5_in wsX5_in) := goodIn_app (goodIn_of _ (by decide +kernel)) ggX5_restore_X5_in
set_option maxRecDepth 20000 in
theorem ggX5_restore_X5_record : GoodIn wsX5_restore wsX5_record := goodIn_r _ [11, 12, 13, 3, 14, 15, 6, 16, 17, 18, 19, 20, 21, 22, 23, 24, 25, 26, 27, 28] (by decide +kernel) (by decide +kernel)
set_option maxRecDepth 20000 in
theorem gX5_restore_X5_record : GoodIn wsX5_restore (wsV RX5 42 RX5 yX5_record wsX5_record) := goodIn_app (goodIn_of _ (by decide +kernel)) ggX5_restore_X5_record
set_option maxRecDepth 20000 in
theorem ggX5_restore_X5_copyState : GoodIn wsX5_restore wsX5_copyState := goodIn_r _ [16] (by decide +kernel) (by decide +kernel)
set_option maxRecDepth 20000 in
theorem gX5_restore_X5_copyState : GoodIn wsX5_restore (va_wsS RX5 38 yX5_copyState wsX5_copyState) := goodIn_app (goodIn_of _ (by decide +kernel)) ggX5_restore_X5_copyState
theorem dX5_restore_0 : decode cX5_restore 0 = .ok (.iload_n 1, 1) := by decide +kernel
theorem dX5_restore_1 : decode cX5_restore 1 = .ok (.iconst 0, 1) := by decide +kernel
theorem dX5_restore_2 : decode cX5_restore 2 = .ok (.iconst 1, 1) := by decide +kernel
theorem dX5_restore_3 : decode cX5_restore 3 = .ok (.invokestatic 30, 3) := by decide +kernel
theorem dX5_restore_6 : decode cX5_restore 6 = .ok (.ifCond .ne 6, 3) := by decide +kernel
theorem dX5_restore_9 : decode cX5_restore 9 = .ok (.bipush (-2), 2) := by decide +kernel
theorem dX5_restore_11 : decode cX5_restore 11 = .ok (.ireturn, 1) := by decide +kernel
theorem dX5_restore_12 : decode cX5_restore 12 = .ok (.aload_n 0, 1) := by decide +kernel
theorem dX5_restore_13 : decode cX5_restore 13 = .ok (.getfield 19, 3) := by decide +kernel
theorem dX5_restore_16 : decode cX5_restore 16 = .ok (.iload_n 1, 1) := by decide +kernel
theorem dX5_restore_17 : decode cX5_restore 17 = .ok (.baload, 1) := by decide +kernel
theorem dX5_restore_18 : decode cX5_restore 18 = .ok (.ifCond .ne 6, 3) := by decide +kernel
theorem dX5_restore_21 : decode cX5_restore 21 = .ok (.bipush (-5), 2) := by decide +kernel
theorem dX5_restore_23 : decode cX5_restore 23 = .ok (.ireturn, 1) := by decide +kernel
theorem dX5_restore_24 : decode cX5_restore 24 = .ok (.aload_n 0, 1) := by decide +kernel
theorem dX5_restore_25 : decode cX5_restore 25 = .ok (.invokevirtual 42, 3) := by decide +kernel
theorem dX5_restore_28 : decode cX5_restore 28 = .ok (.aload_n 0, 1) := by decide +kernel
theorem dX5_restore_29 : decode cX5_restore 29 = .ok (.getfield 16, 3) := by decide +kernel
theorem dX5_restore_32 : decode cX5_restore 32 = .ok (.sipush 234, 3) := by decide +kernel
theorem dX5_restore_35 : decode cX5_restore 35 = .ok (.iload_n 1, 1) := by decide +kernel
theorem dX5_restore_36 : decode cX5_restore 36 = .ok (.imul, 1) := by decide +kernel
theorem dX5_restore_37 : decode cX5_restore 37 = .ok (.aload_n 0, 1) := by decide +kernel
theorem dX5_restore_38 : decode cX5_restore 38 = .ok (.getfield 7, 3) := by decide +kernel
theorem dX5_restore_41 : decode cX5_restore 41 = .ok (.iconst 0, 1) := by decide +kernel
theorem dX5_restore_42 : decode cX5_restore 42 = .ok (.invokestatic 38, 3) := by decide +kernel
theorem dX5_restore_45 : decode cX5_restore 45 = .ok (.aload_n 0, 1) := by decide +kernel
theorem dX5_restore_46 : decode cX5_restore 46 = .ok (.getfield 7, 3) := by decide +kernel
theorem dX5_restore_49 : decode cX5_restore 49 = .ok (.bipush 11, 2) := by decide +kernel
theorem dX5_restore_51 : decode cX5_restore 51 = .ok (.iaload, 1) := by decide +kernel
theorem dX5_restore_52 : decode cX5_restore 52 = .ok (.ireturn, 1) := by decide +kernel
theorem dX5_uses_0 : decode cX5_uses 0 = .ok (.aload_n 0, 1) := by decide +kernel
theorem dX5_uses_1 : decode cX5_uses 1 = .ok (.getfield 7, 3) := by decide +kernel
theorem dX5_uses_4 : decode cX5_uses 4 = .ok (.bipush 114, 2) := by decide +kernel
theorem dX5_uses_6 : decode cX5_uses 6 = .ok (.bipush 10, 2) := by decide +kernel
theorem dX5_uses_8 : decode cX5_uses 8 = .ok (.iload_n 2, 1) := by decide +kernel
theorem dX5_uses_9 : decode cX5_uses 9 = .ok (.imul, 1) := by decide +kernel
theorem dX5_uses_10 : decode cX5_uses 10 = .ok (.iadd, 1) := by decide +kernel
theorem dX5_uses_11 : decode cX5_uses 11 = .ok (.iload_n 1, 1) := by decide +kernel
theorem dX5_uses_12 : decode cX5_uses 12 = .ok (.iadd, 1) := by decide +kernel
theorem dX5_uses_13 : decode cX5_uses 13 = .ok (.iaload, 1) := by decide +kernel
theorem dX5_uses_14 : decode cX5_uses 14 = .ok (.ireturn, 1) := by decide +kernel
set_option maxRecDepth 20000 in
theorem ggX5_usesBySchool_X5_uses : GoodIn wsX5_usesBySchool wsX5_uses := goodIn_r _ [5, 6, 7, 8, 9, 10, 11, 12, 13, 14, 15, 16, 17, 18] (by decide +kernel) (by decide +kernel)
set_option maxRecDepth 20000 in
theorem gX5_usesBySchool_X5_uses : GoodIn wsX5_usesBySchool (wsV RX5 45 RX5 yX5_uses wsX5_uses) := goodIn_app (goodIn_of _ (by decide +kernel)) ggX5_usesBySchool_X5_uses
theorem dX5_usesBySchool_0 : decode cX5_usesBySchool 0 = .ok (.iconst 0, 1) := by decide +kernel
theorem dX5_usesBySchool_1 : decode cX5_usesBySchool 1 = .ok (.istore_n 2, 1) := by decide +kernel
theorem dX5_usesBySchool_2 : decode cX5_usesBySchool 2 = .ok (.iconst 0, 1) := by decide +kernel
theorem dX5_usesBySchool_3 : decode cX5_usesBySchool 3 = .ok (.istore_n 3, 1) := by decide +kernel
theorem dX5_usesBySchool_4 : decode cX5_usesBySchool 4 = .ok (.iload_n 3, 1) := by decide +kernel
theorem dX5_usesBySchool_5 : decode cX5_usesBySchool 5 = .ok (.bipush 10, 2) := by decide +kernel
theorem dX5_usesBySchool_7 : decode cX5_usesBySchool 7 = .ok (.if_icmp .ge 18, 3) := by decide +kernel
theorem dX5_usesBySchool_10 : decode cX5_usesBySchool 10 = .ok (.iload_n 2, 1) := by decide +kernel
theorem dX5_usesBySchool_11 : decode cX5_usesBySchool 11 = .ok (.aload_n 0, 1) := by decide +kernel
theorem dX5_usesBySchool_12 : decode cX5_usesBySchool 12 = .ok (.iload_n 3, 1) := by decide +kernel
theorem dX5_usesBySchool_13 : decode cX5_usesBySchool 13 = .ok (.iload_n 1, 1) := by decide +kernel
theorem dX5_usesBySchool_14 : decode cX5_usesBySchool 14 = .ok (.invokevirtual 45, 3) := by decide +kernel
theorem dX5_usesBySchool_17 : decode cX5_usesBySchool 17 = .ok (.iadd, 1) := by decide +kernel
theorem dX5_usesBySchool_18 : decode cX5_usesBySchool 18 = .ok (.istore_n 2, 1) := by decide +kernel
theorem dX5_usesBySchool_19 : decode cX5_usesBySchool 19 = .ok (.iinc 3 1, 3) := by decide +kernel
theorem dX5_usesBySchool_22 : decode cX5_usesBySchool 22 = .ok (.goto (-18), 3) := by decide +kernel
theorem dX5_usesBySchool_25 : decode cX5_usesBySchool 25 = .ok (.iload_n 2, 1) := by decide +kernel
theorem dX5_usesBySchool_26 : decode cX5_usesBySchool 26 = .ok (.ireturn, 1) := by decide +kernel
set_option maxRecDepth 20000 in
theorem ggX5_usesByClass_X5_uses : GoodIn wsX5_usesByClass wsX5_uses := goodIn_r _ [5, 6, 7, 8, 9, 10, 11, 12, 13, 14, 15, 16, 17, 18] (by decide +kernel) (by decide +kernel)
set_option maxRecDepth 20000 in
theorem gX5_usesByClass_X5_uses : GoodIn wsX5_usesByClass (wsV RX5 45 RX5 yX5_uses wsX5_uses) := goodIn_app (goodIn_of _ (by decide +kernel)) ggX5_usesByClass_X5_uses
theorem dX5_usesByClass_0 : decode cX5_usesByClass 0 = .ok (.iload_n 1, 1) := by decide +kernel
theorem dX5_usesByClass_1 : decode cX5_usesByClass 1 = .ok (.iload_n 1, 1) := by decide +kernel
theorem dX5_usesByClass_2 : decode cX5_usesByClass 2 = .ok (.iconst 2, 1) := by decide +kernel
theorem dX5_usesByClass_3 : decode cX5_usesByClass 3 = .ok (.irem, 1) := by decide +kernel
theorem dX5_usesByClass_4 : decode cX5_usesByClass 4 = .ok (.isub, 1) := by decide +kernel
theorem dX5_usesByClass_5 : decode cX5_usesByClass 5 = .ok (.istore_n 3, 1) := by decide +kernel
theorem dX5_usesByClass_6 : decode cX5_usesByClass 6 = .ok (.aload_n 0, 1) := by decide +kernel
theorem dX5_usesByClass_7 : decode cX5_usesByClass 7 = .ok (.iload_n 3, 1) := by decide +kernel
theorem dX5_usesByClass_8 : decode cX5_usesByClass 8 = .ok (.iload_n 2, 1) := by decide +kernel
theorem dX5_usesByClass_9 : decode cX5_usesByClass 9 = .ok (.invokevirtual 45, 3) := by decide +kernel
theorem dX5_usesByClass_12 : decode cX5_usesByClass 12 = .ok (.aload_n 0, 1) := by decide +kernel
theorem dX5_usesByClass_13 : decode cX5_usesByClass 13 = .ok (.iload_n 3, 1) := by decide +kernel
theorem dX5_usesByClass_14 : decode cX5_usesByClass 14 = .ok (.iconst 1, 1) := by decide +kernel
theorem dX5_usesByClass_15 : decode cX5_usesByClass 15 = .ok (.iadd, 1) := by decide +kernel
theorem dX5_usesByClass_16 : decode cX5_usesByClass 16 = .ok (.iload_n 2, 1) := by decide +kernel
theorem dX5_usesByClass_17 : decode cX5_usesByClass 17 = .ok (.invokevirtual 45, 3) := by decide +kernel
theorem dX5_usesByClass_20 : decode cX5_usesByClass 20 = .ok (.iadd, 1) := by decide +kernel
theorem dX5_usesByClass_21 : decode cX5_usesByClass 21 = .ok (.ireturn, 1) := by decide +kernel
set_option maxRecDepth 20000 in
theorem ggX5_noveltyOf_X5_usesBySchool : GoodIn wsX5_noveltyOf wsX5_usesBySchool := goodIn_r _ [6, 7, 8, 9, 5, 10, 1, 15, 16, 17, 18, 19, 20, 21, 22, 23, 24, 25, 26] (by decide +kernel) (by decide +kernel)
set_option maxRecDepth 20000 in
theorem gX5_noveltyOf_X5_usesBySchool : GoodIn wsX5_noveltyOf (wsV RX5 49 RX5 yX5_usesBySchool wsX5_usesBySchool) := goodIn_app (goodIn_of _ (by decide +kernel)) ggX5_noveltyOf_X5_usesBySchool
set_option maxRecDepth 20000 in
theorem ggX5_noveltyOf_X5_usesByClass : GoodIn wsX5_noveltyOf wsX5_usesByClass := goodIn_r _ [14, 7, 8, 9, 5, 10, 1, 15, 16, 17, 18, 19, 20, 21, 22, 23, 24, 25, 26] (by decide +kernel) (by decide +kernel)
set_option maxRecDepth 20000 in
theorem gX5_noveltyOf_X5_usesByClass : GoodIn wsX5_noveltyOf (wsV RX5 53 RX5 yX5_usesByClass wsX5_usesByClass) := goodIn_app (goodIn_of _ (by decide +kernel)) ggX5_noveltyOf_X5_usesByClass
theorem dX5_noveltyOf_0 : decode cX5_noveltyOf 0 = .ok (.bipush 100, 2) := by decide +kernel
theorem dX5_noveltyOf_2 : decode cX5_noveltyOf 2 = .ok (.aload_n 0, 1) := by decide +kernel
theorem dX5_noveltyOf_3 : decode cX5_noveltyOf 3 = .ok (.getfield 7, 3) := by decide +kernel
theorem dX5_noveltyOf_6 : decode cX5_noveltyOf 6 = .ok (.iconst 1, 1) := by decide +kernel
theorem dX5_noveltyOf_7 : decode cX5_noveltyOf 7 = .ok (.iaload, 1) := by decide +kernel
theorem dX5_noveltyOf_8 : decode cX5_noveltyOf 8 = .ok (.aload_n 0, 1) := by decide +kernel
theorem dX5_noveltyOf_9 : decode cX5_noveltyOf 9 = .ok (.iload_n 2, 1) := by decide +kernel
theorem dX5_noveltyOf_10 : decode cX5_noveltyOf 10 = .ok (.invokevirtual 49, 3) := by decide +kernel
theorem dX5_noveltyOf_13 : decode cX5_noveltyOf 13 = .ok (.aload_n 0, 1) := by decide +kernel
theorem dX5_noveltyOf_14 : decode cX5_noveltyOf 14 = .ok (.iload_n 1, 1) := by decide +kernel
theorem dX5_noveltyOf_15 : decode cX5_noveltyOf 15 = .ok (.iload_n 2, 1) := by decide +kernel
theorem dX5_noveltyOf_16 : decode cX5_noveltyOf 16 = .ok (.invokevirtual 53, 3) := by decide +kernel
theorem dX5_noveltyOf_19 : decode cX5_noveltyOf 19 = .ok (.iadd, 1) := by decide +kernel
theorem dX5_noveltyOf_20 : decode cX5_noveltyOf 20 = .ok (.imul, 1) := by decide +kernel
theorem dX5_noveltyOf_21 : decode cX5_noveltyOf 21 = .ok (.isub, 1) := by decide +kernel
theorem dX5_noveltyOf_22 : decode cX5_noveltyOf 22 = .ok (.istore_n 3, 1) := by decide +kernel
theorem dX5_noveltyOf_23 : decode cX5_noveltyOf 23 = .ok (.iload_n 3, 1) := by decide +kernel
theorem dX5_noveltyOf_24 : decode cX5_noveltyOf 24 = .ok (.ifCond .ge 7, 3) := by decide +kernel
theorem dX5_noveltyOf_27 : decode cX5_noveltyOf 27 = .ok (.iconst 0, 1) := by decide +kernel
theorem dX5_noveltyOf_28 : decode cX5_noveltyOf 28 = .ok (.goto 4, 3) := by decide +kernel
theorem dX5_noveltyOf_31 : decode cX5_noveltyOf 31 = .ok (.iload_n 3, 1) := by decide +kernel
theorem dX5_noveltyOf_32 : decode cX5_noveltyOf 32 = .ok (.ireturn, 1) := by decide +kernel
theorem dX5_grudge_0 : decode cX5_grudge 0 = .ok (.aload_n 0, 1) := by decide +kernel
theorem dX5_grudge_1 : decode cX5_grudge 1 = .ok (.getfield 7, 3) := by decide +kernel
theorem dX5_grudge_4 : decode cX5_grudge 4 = .ok (.bipush 13, 2) := by decide +kernel
theorem dX5_grudge_6 : decode cX5_grudge 6 = .ok (.iload_n 1, 1) := by decide +kernel
theorem dX5_grudge_7 : decode cX5_grudge 7 = .ok (.iconst 2, 1) := by decide +kernel
theorem dX5_grudge_8 : decode cX5_grudge 8 = .ok (.idiv, 1) := by decide +kernel
theorem dX5_grudge_9 : decode cX5_grudge 9 = .ok (.iadd, 1) := by decide +kernel
theorem dX5_grudge_10 : decode cX5_grudge 10 = .ok (.iaload, 1) := by decide +kernel
theorem dX5_grudge_11 : decode cX5_grudge 11 = .ok (.ireturn, 1) := by decide +kernel
set_option maxRecDepth 20000 in
theorem ggX5_standsBy_X5_of : GoodIn wsX5_standsBy wsX5_of := goodIn_r _ [5, 6, 7, 8, 9, 10, 11, 12, 13, 14, 15, 16, 17, 18] (by decide +kernel) (by decide +kernel)
set_option maxRecDepth 20000 in
theorem gX5_standsBy_X5_of : GoodIn wsX5_standsBy (wsV RX5 56 RX5 yX5_of wsX5_of) := goodIn_app (goodIn_of _ (by decide +kernel)) ggX5_standsBy_X5_of
theorem dX5_standsBy_0 : decode cX5_standsBy 0 = .ok (.iload_n 1, 1) := by decide +kernel
theorem dX5_standsBy_1 : decode cX5_standsBy 1 = .ok (.bipush (-6), 2) := by decide +kernel
theorem dX5_standsBy_3 : decode cX5_standsBy 3 = .ok (.if_icmp .ne 5, 3) := by decide +kernel
theorem dX5_standsBy_6 : decode cX5_standsBy 6 = .ok (.iconst 0, 1) := by decide +kernel
theorem dX5_standsBy_7 : decode cX5_standsBy 7 = .ok (.ireturn, 1) := by decide +kernel
theorem dX5_standsBy_8 : decode cX5_standsBy 8 = .ok (.aload_n 0, 1) := by decide +kernel
theorem dX5_standsBy_9 : decode cX5_standsBy 9 = .ok (.iload_n 1, 1) := by decide +kernel
theorem dX5_standsBy_10 : decode cX5_standsBy 10 = .ok (.iconst 0, 1) := by decide +kernel
theorem dX5_standsBy_11 : decode cX5_standsBy 11 = .ok (.invokevirtual 56, 3) := by decide +kernel
theorem dX5_standsBy_14 : decode cX5_standsBy 14 = .ok (.istore_n 3, 1) := by decide +kernel
theorem dX5_standsBy_15 : decode cX5_standsBy 15 = .ok (.iload_n 1, 1) := by decide +kernel
theorem dX5_standsBy_16 : decode cX5_standsBy 16 = .ok (.iconst 2, 1) := by decide +kernel
theorem dX5_standsBy_17 : decode cX5_standsBy 17 = .ok (.idiv, 1) := by decide +kernel
theorem dX5_standsBy_18 : decode cX5_standsBy 18 = .ok (.iload_n 2, 1) := by decide +kernel
theorem dX5_standsBy_19 : decode cX5_standsBy 19 = .ok (.iconst 2, 1) := by decide +kernel
theorem dX5_standsBy_20 : decode cX5_standsBy 20 = .ok (.idiv, 1) := by decide +kernel
theorem dX5_standsBy_21 : decode cX5_standsBy 21 = .ok (.if_icmp .eq 7, 3) := by decide +kernel
theorem dX5_standsBy_24 : decode cX5_standsBy 24 = .ok (.iload_n 3, 1) := by decide +kernel
theorem dX5_standsBy_25 : decode cX5_standsBy 25 = .ok (.goto 15, 3) := by decide +kernel
theorem dX5_standsBy_28 : decode cX5_standsBy 28 = .ok (.iload_n 3, 1) := by decide +kernel
theorem dX5_standsBy_29 : decode cX5_standsBy 29 = .ok (.iconst 2, 1) := by decide +kernel
theorem dX5_standsBy_30 : decode cX5_standsBy 30 = .ok (.if_icmp .ge 7, 3) := by decide +kernel
theorem dX5_standsBy_33 : decode cX5_standsBy 33 = .ok (.iconst 0, 1) := by decide +kernel
theorem dX5_standsBy_34 : decode cX5_standsBy 34 = .ok (.goto 6, 3) := by decide +kernel
theorem dX5_standsBy_37 : decode cX5_standsBy 37 = .ok (.iload_n 3, 1) := by decide +kernel
theorem dX5_standsBy_38 : decode cX5_standsBy 38 = .ok (.iconst 2, 1) := by decide +kernel
theorem dX5_standsBy_39 : decode cX5_standsBy 39 = .ok (.isub, 1) := by decide +kernel
theorem dX5_standsBy_40 : decode cX5_standsBy 40 = .ok (.ireturn, 1) := by decide +kernel
set_option maxRecDepth 20000 in
theorem ggX5_weightOf_X5_ofExcuse : GoodIn wsX5_weightOf wsX5_ofExcuse := goodIn_r _ [6, 1, 35, 36, 37, 38, 39, 40, 41, 42, 43, 44, 45, 46] (by decide +kernel) (by decide +kernel)
set_option maxRecDepth 20000 in
theorem gX5_weightOf_X5_ofExcuse : GoodIn wsX5_weightOf (wsV RX5 59 RX5 yX5_ofExcuse wsX5_ofExcuse) := goodIn_app (goodIn_of _ (by decide +kernel)) ggX5_weightOf_X5_ofExcuse
set_option maxRecDepth 20000 in
theorem ggX5_weightOf_X5_noveltyOf : GoodIn wsX5_weightOf wsX5_noveltyOf := goodIn_r _ [10, 1, 11, 12, 13, 5, 14, 15, 16, 17, 18, 19, 20, 21, 22, 35, 36, 37, 38, 39, 40, 41, 42, 43, 44, 45, 46] (by decide +kernel) (by decide +kernel)
set_option maxRecDepth 20000 in
theorem gX5_weightOf_X5_noveltyOf : GoodIn wsX5_weightOf (wsV RX5 62 RX5 yX5_noveltyOf wsX5_noveltyOf) := goodIn_app (goodIn_of _ (by decide +kernel)) ggX5_weightOf_X5_noveltyOf
set_option maxRecDepth 20000 in
theorem ggX5_weightOf_X5_grudge : GoodIn wsX5_weightOf wsX5_grudge := goodIn_r _ [26, 1, 35, 36, 37, 38, 39, 40, 41, 42, 43, 44, 45, 46] (by decide +kernel) (by decide +kernel)
set_option maxRecDepth 20000 in
theorem gX5_weightOf_X5_grudge : GoodIn wsX5_weightOf (wsV RX5 65 RX5 yX5_grudge wsX5_grudge) := goodIn_app (goodIn_of _ (by decide +kernel)) ggX5_weightOf_X5_grudge
set_option maxRecDepth 20000 in
theorem ggX5_weightOf_X5_standsBy : GoodIn wsX5_weightOf wsX5_standsBy := goodIn_r _ [30, 31, 32, 33, 5, 34, 1, 35, 36, 37, 38, 39, 40, 41, 42, 43, 44, 45, 46] (by decide +kernel) (by decide +kernel)
set_option maxRecDepth 20000 in
theorem gX5_weightOf_X5_standsBy : GoodIn wsX5_weightOf (wsV RX5 68 RX5 yX5_standsBy wsX5_standsBy) := goodIn_app (goodIn_of _ (by decide +kernel)) ggX5_weightOf_X5_standsBy
theorem dX5_weightOf_0 : decode cX5_weightOf 0 = .ok (.aload_n 0, 1) := by decide +kernel
theorem dX5_weightOf_1 : decode cX5_weightOf 1 = .ok (.iload_n 2, 1) := by decide +kernel
theorem dX5_weightOf_2 : decode cX5_weightOf 2 = .ok (.iconst 1, 1) := by decide +kernel
theorem dX5_weightOf_3 : decode cX5_weightOf 3 = .ok (.invokevirtual 59, 3) := by decide +kernel
theorem dX5_weightOf_6 : decode cX5_weightOf 6 = .ok (.aload_n 0, 1) := by decide +kernel
theorem dX5_weightOf_7 : decode cX5_weightOf 7 = .ok (.iload_n 1, 1) := by decide +kernel
theorem dX5_weightOf_8 : decode cX5_weightOf 8 = .ok (.iload_n 2, 1) := by decide +kernel
theorem dX5_weightOf_9 : decode cX5_weightOf 9 = .ok (.invokevirtual 62, 3) := by decide +kernel
theorem dX5_weightOf_12 : decode cX5_weightOf 12 = .ok (.imul, 1) := by decide +kernel
theorem dX5_weightOf_13 : decode cX5_weightOf 13 = .ok (.bipush 100, 2) := by decide +kernel
theorem dX5_weightOf_15 : decode cX5_weightOf 15 = .ok (.idiv, 1) := by decide +kernel
theorem dX5_weightOf_16 : decode cX5_weightOf 16 = .ok (.aload_n 0, 1) := by decide +kernel
theorem dX5_weightOf_17 : decode cX5_weightOf 17 = .ok (.getfield 7, 3) := by decide +kernel
theorem dX5_weightOf_20 : decode cX5_weightOf 20 = .ok (.iconst 4, 1) := by decide +kernel
theorem dX5_weightOf_21 : decode cX5_weightOf 21 = .ok (.iaload, 1) := by decide +kernel
theorem dX5_weightOf_22 : decode cX5_weightOf 22 = .ok (.aload_n 0, 1) := by decide +kernel
theorem dX5_weightOf_23 : decode cX5_weightOf 23 = .ok (.iload_n 1, 1) := by decide +kernel
theorem dX5_weightOf_24 : decode cX5_weightOf 24 = .ok (.invokevirtual 65, 3) := by decide +kernel
theorem dX5_weightOf_27 : decode cX5_weightOf 27 = .ok (.imul, 1) := by decide +kernel
theorem dX5_weightOf_28 : decode cX5_weightOf 28 = .ok (.isub, 1) := by decide +kernel
theorem dX5_weightOf_29 : decode cX5_weightOf 29 = .ok (.iload 4, 2) := by decide +kernel
theorem dX5_weightOf_31 : decode cX5_weightOf 31 = .ok (.bipush 10, 2) := by decide +kernel
theorem dX5_weightOf_33 : decode cX5_weightOf 33 = .ok (.idiv, 1) := by decide +kernel
theorem dX5_weightOf_34 : decode cX5_weightOf 34 = .ok (.isub, 1) := by decide +kernel
theorem dX5_weightOf_35 : decode cX5_weightOf 35 = .ok (.aload_n 0, 1) := by decide +kernel
theorem dX5_weightOf_36 : decode cX5_weightOf 36 = .ok (.iload_n 3, 1) := by decide +kernel
theorem dX5_weightOf_37 : decode cX5_weightOf 37 = .ok (.iload_n 1, 1) := by decide +kernel
theorem dX5_weightOf_38 : decode cX5_weightOf 38 = .ok (.invokevirtual 68, 3) := by decide +kernel
theorem dX5_weightOf_41 : decode cX5_weightOf 41 = .ok (.iadd, 1) := by decide +kernel
theorem dX5_weightOf_42 : decode cX5_weightOf 42 = .ok (.ireturn, 1) := by decide +kernel
set_option maxRecDepth 20000 in
theorem ggX5_reason_X5_uses : GoodIn wsX5_reason wsX5_uses := goodIn_r _ [6, 1, 39, 40, 41, 42, 43, 44, 45, 46, 47, 48, 49, 50] (by decide +kernel) (by decide +kernel)
set_option maxRecDepth 20000 in
theorem gX5_reason_X5_uses : GoodIn wsX5_reason (wsV RX5 45 RX5 yX5_uses wsX5_uses) := goodIn_app (goodIn_of _ (by decide +kernel)) ggX5_reason_X5_uses
set_option maxRecDepth 20000 in
theorem ggX5_reason_X5_of : GoodIn wsX5_reason wsX5_of := goodIn_r _ [10, 1, 39, 40, 41, 42, 43, 44, 45, 46, 47, 48, 49, 50] (by decide +kernel) (by decide +kernel)
set_option maxRecDepth 20000 in
theorem gX5_reason_X5_of : GoodIn wsX5_reason (wsV RX5 56 RX5 yX5_of wsX5_of) := goodIn_app (goodIn_of _ (by decide +kernel)) ggX5_reason_X5_of
set_option maxRecDepth 20000 in
theorem ggX5_reason_X5_ofExcuse : GoodIn wsX5_reason wsX5_ofExcuse := goodIn_r _ [14, 1, 39, 40, 41, 42, 43, 44, 45, 46, 47, 48, 49, 50] (by decide +kernel) (by decide +kernel)
set_option maxRecDepth 20000 in
theorem gX5_reason_X5_ofExcuse : GoodIn wsX5_reason (wsV RX5 59 RX5 yX5_ofExcuse wsX5_ofExcuse) := goodIn_app (goodIn_of _ (by decide +kernel)) ggX5_reason_X5_ofExcuse
set_option maxRecDepth 20000 in
theorem ggX5_reason_X5_weightOf : GoodIn wsX5_reason wsX5_weightOf := goodIn_r _ [18, 1, 11, 12, 13, 5, 14, 19, 20, 21, 22, 23, 24, 25, 26, 2, 3, 4, 6, 27, 28, 29, 30, 31, 32, 33, 34, 35, 36, 37, 38, 7, 8, 9, 10, 39, 40, 41, 42, 43, 44, 45, 46, 47, 48, 49, 50] (by decide +kernel) (by decide +kernel)
set_option maxRecDepth 20000 in
theorem gX5_reason_X5_weightOf : GoodIn wsX5_reason (wsV RX5 71 RX5 yX5_weightOf wsX5_weightOf) := goodIn_app (goodIn_of _ (by decide +kernel)) ggX5_reason_X5_weightOf
theorem dX5_reason_0 : decode cX5_reason 0 = .ok (.aload_n 0, 1) := by decide +kernel
theorem dX5_reason_1 : decode cX5_reason 1 = .ok (.iload_n 1, 1) := by decide +kernel
theorem dX5_reason_2 : decode cX5_reason 2 = .ok (.iload_n 2, 1) := by decide +kernel
theorem dX5_reason_3 : decode cX5_reason 3 = .ok (.invokevirtual 45, 3) := by decide +kernel
theorem dX5_reason_6 : decode cX5_reason 6 = .ok (.aload_n 0, 1) := by decide +kernel
theorem dX5_reason_7 : decode cX5_reason 7 = .ok (.getfield 7, 3) := by decide +kernel
theorem dX5_reason_10 : decode cX5_reason 10 = .ok (.iconst 2, 1) := by decide +kernel
theorem dX5_reason_11 : decode cX5_reason 11 = .ok (.iaload, 1) := by decide +kernel
theorem dX5_reason_12 : decode cX5_reason 12 = .ok (.if_icmp .lt 5, 3) := by decide +kernel
theorem dX5_reason_15 : decode cX5_reason 15 = .ok (.iconst 1, 1) := by decide +kernel
theorem dX5_reason_16 : decode cX5_reason 16 = .ok (.ireturn, 1) := by decide +kernel
theorem dX5_reason_17 : decode cX5_reason 17 = .ok (.aload_n 0, 1) := by decide +kernel
theorem dX5_reason_18 : decode cX5_reason 18 = .ok (.iload_n 1, 1) := by decide +kernel
theorem dX5_reason_19 : decode cX5_reason 19 = .ok (.iconst 4, 1) := by decide +kernel
theorem dX5_reason_20 : decode cX5_reason 20 = .ok (.invokevirtual 56, 3) := by decide +kernel
theorem dX5_reason_23 : decode cX5_reason 23 = .ok (.aload_n 0, 1) := by decide +kernel
theorem dX5_reason_24 : decode cX5_reason 24 = .ok (.iload_n 2, 1) := by decide +kernel
theorem dX5_reason_25 : decode cX5_reason 25 = .ok (.iconst 0, 1) := by decide +kernel
theorem dX5_reason_26 : decode cX5_reason 26 = .ok (.invokevirtual 59, 3) := by decide +kernel
theorem dX5_reason_29 : decode cX5_reason 29 = .ok (.if_icmp .ne 5, 3) := by decide +kernel
theorem dX5_reason_32 : decode cX5_reason 32 = .ok (.iconst 2, 1) := by decide +kernel
theorem dX5_reason_33 : decode cX5_reason 33 = .ok (.ireturn, 1) := by decide +kernel
theorem dX5_reason_34 : decode cX5_reason 34 = .ok (.iload_n 3, 1) := by decide +kernel
theorem dX5_reason_35 : decode cX5_reason 35 = .ok (.bipush (-6), 2) := by decide +kernel
theorem dX5_reason_37 : decode cX5_reason 37 = .ok (.if_icmp .eq 14, 3) := by decide +kernel
theorem dX5_reason_40 : decode cX5_reason 40 = .ok (.aload_n 0, 1) := by decide +kernel
theorem dX5_reason_41 : decode cX5_reason 41 = .ok (.iload_n 3, 1) := by decide +kernel
theorem dX5_reason_42 : decode cX5_reason 42 = .ok (.iconst 0, 1) := by decide +kernel
theorem dX5_reason_43 : decode cX5_reason 43 = .ok (.invokevirtual 56, 3) := by decide +kernel
theorem dX5_reason_46 : decode cX5_reason 46 = .ok (.ifCond .ne 5, 3) := by decide +kernel
theorem dX5_reason_49 : decode cX5_reason 49 = .ok (.iconst 3, 1) := by decide +kernel
theorem dX5_reason_50 : decode cX5_reason 50 = .ok (.ireturn, 1) := by decide +kernel
theorem dX5_reason_51 : decode cX5_reason 51 = .ok (.aload_n 0, 1) := by decide +kernel
theorem dX5_reason_52 : decode cX5_reason 52 = .ok (.iload_n 1, 1) := by decide +kernel
theorem dX5_reason_53 : decode cX5_reason 53 = .ok (.iload_n 2, 1) := by decide +kernel
theorem dX5_reason_54 : decode cX5_reason 54 = .ok (.iload_n 3, 1) := by decide +kernel
theorem dX5_reason_55 : decode cX5_reason 55 = .ok (.iload 4, 2) := by decide +kernel
theorem dX5_reason_57 : decode cX5_reason 57 = .ok (.invokevirtual 71, 3) := by decide +kernel
theorem dX5_reason_60 : decode cX5_reason 60 = .ok (.aload_n 0, 1) := by decide +kernel
theorem dX5_reason_61 : decode cX5_reason 61 = .ok (.getfield 7, 3) := by decide +kernel
theorem dX5_reason_64 : decode cX5_reason 64 = .ok (.iconst 0, 1) := by decide +kernel
theorem dX5_reason_65 : decode cX5_reason 65 = .ok (.iaload, 1) := by decide +kernel
theorem dX5_reason_66 : decode cX5_reason 66 = .ok (.if_icmp .ge 7, 3) := by decide +kernel
theorem dX5_reason_69 : decode cX5_reason 69 = .ok (.iconst 4, 1) := by decide +kernel
theorem dX5_reason_70 : decode cX5_reason 70 = .ok (.goto 4, 3) := by decide +kernel
theorem dX5_reason_73 : decode cX5_reason 73 = .ok (.iconst 0, 1) := by decide +kernel
theorem dX5_reason_74 : decode cX5_reason 74 = .ok (.ireturn, 1) := by decide +kernel
set_option maxRecDepth 20000 in
theorem ggX5_isValue_X5_in : GoodIn wsX5_isValue wsX5_in := goodIn_r _ [4] (by decide +kernel) (by decide +kernel)
set_option maxRecDepth 20000 in
theorem gX5_isValue_X5_in : GoodIn wsX5_isValue (va_wsS RX5 30 yX5_in wsX5_in) := goodIn_app (goodIn_of _ (by decide +kernel)) ggX5_isValue_X5_in
theorem dX5_isValue_0 : decode cX5_isValue 0 = .ok (.iload_n 0, 1) := by decide +kernel
theorem dX5_isValue_1 : decode cX5_isValue 1 = .ok (.tableswitch 75 0 4 #[35, 43, 51, 59, 67], 35) := by decide +kernel
theorem dX5_isValue_36 : decode cX5_isValue 36 = .ok (.iload_n 1, 1) := by decide +kernel
theorem dX5_isValue_37 : decode cX5_isValue 37 = .ok (.iconst 1, 1) := by decide +kernel
theorem dX5_isValue_38 : decode cX5_isValue 38 = .ok (.bipush 99, 2) := by decide +kernel
theorem dX5_isValue_40 : decode cX5_isValue 40 = .ok (.invokestatic 30, 3) := by decide +kernel
theorem dX5_isValue_43 : decode cX5_isValue 43 = .ok (.ireturn, 1) := by decide +kernel
theorem dX5_isValue_44 : decode cX5_isValue 44 = .ok (.iload_n 1, 1) := by decide +kernel
theorem dX5_isValue_45 : decode cX5_isValue 45 = .ok (.iconst 0, 1) := by decide +kernel
theorem dX5_isValue_46 : decode cX5_isValue 46 = .ok (.bipush 50, 2) := by decide +kernel
theorem dX5_isValue_48 : decode cX5_isValue 48 = .ok (.invokestatic 30, 3) := by decide +kernel
theorem dX5_isValue_51 : decode cX5_isValue 51 = .ok (.ireturn, 1) := by decide +kernel
theorem dX5_isValue_52 : decode cX5_isValue 52 = .ok (.iload_n 1, 1) := by decide +kernel
theorem dX5_isValue_53 : decode cX5_isValue 53 = .ok (.iconst 1, 1) := by decide +kernel
theorem dX5_isValue_54 : decode cX5_isValue 54 = .ok (.bipush 9, 2) := by decide +kernel
theorem dX5_isValue_56 : decode cX5_isValue 56 = .ok (.invokestatic 30, 3) := by decide +kernel
theorem dX5_isValue_59 : decode cX5_isValue 59 = .ok (.ireturn, 1) := by decide +kernel
theorem dX5_isValue_60 : decode cX5_isValue 60 = .ok (.iload_n 1, 1) := by decide +kernel
theorem dX5_isValue_61 : decode cX5_isValue 61 = .ok (.iconst 1, 1) := by decide +kernel
theorem dX5_isValue_62 : decode cX5_isValue 62 = .ok (.bipush 60, 2) := by decide +kernel
theorem dX5_isValue_64 : decode cX5_isValue 64 = .ok (.invokestatic 30, 3) := by decide +kernel
theorem dX5_isValue_67 : decode cX5_isValue 67 = .ok (.ireturn, 1) := by decide +kernel
theorem dX5_isValue_68 : decode cX5_isValue 68 = .ok (.iload_n 1, 1) := by decide +kernel
theorem dX5_isValue_69 : decode cX5_isValue 69 = .ok (.iconst 0, 1) := by decide +kernel
theorem dX5_isValue_70 : decode cX5_isValue 70 = .ok (.bipush 20, 2) := by decide +kernel
theorem dX5_isValue_72 : decode cX5_isValue 72 = .ok (.invokestatic 30, 3) := by decide +kernel
theorem dX5_isValue_75 : decode cX5_isValue 75 = .ok (.ireturn, 1) := by decide +kernel
theorem dX5_isValue_76 : decode cX5_isValue 76 = .ok (.iconst 0, 1) := by decide +kernel
theorem dX5_isValue_77 : decode cX5_isValue 77 = .ok (.ireturn, 1) := by decide +kernel
set_option maxRecDepth 20000 in
theorem ggX5_set_X5_isValue : GoodIn wsX5_set wsX5_isValue := goodIn_r _ [5, 6, 7, 4, 8] (by decide +kernel) (by decide +kernel)
set_option maxRecDepth 20000 in
theorem gX5_set_X5_isValue : GoodIn wsX5_set (va_wsS RX5 75 yX5_isValue wsX5_isValue) := goodIn_app (goodIn_of _ (by decide +kernel)) ggX5_set_X5_isValue
set_option maxRecDepth 20000 in
theorem ggX5_set_X5_record : GoodIn wsX5_set wsX5_record := goodIn_r _ [12, 13, 14, 1, 15, 16, 4, 17, 18, 19, 20, 21, 22, 23, 24, 25, 26, 27, 28, 29] (by decide +kernel) (by decide +kernel)
set_option maxRecDepth 20000 in
theorem gX5_set_X5_record : GoodIn wsX5_set (wsV RX5 42 RX5 yX5_record wsX5_record) := goodIn_app (goodIn_of _ (by decide +kernel)) ggX5_set_X5_record
theorem dX5_set_0 : decode cX5_set 0 = .ok (.iload_n 1, 1) := by decide +kernel
theorem dX5_set_1 : decode cX5_set 1 = .ok (.iload_n 2, 1) := by decide +kernel
theorem dX5_set_2 : decode cX5_set 2 = .ok (.invokestatic 75, 3) := by decide +kernel
theorem dX5_set_5 : decode cX5_set 5 = .ok (.ifCond .ne 6, 3) := by decide +kernel
theorem dX5_set_8 : decode cX5_set 8 = .ok (.bipush (-2), 2) := by decide +kernel
theorem dX5_set_10 : decode cX5_set 10 = .ok (.ireturn, 1) := by decide +kernel
theorem dX5_set_11 : decode cX5_set 11 = .ok (.aload_n 0, 1) := by decide +kernel
theorem dX5_set_12 : decode cX5_set 12 = .ok (.invokevirtual 42, 3) := by decide +kernel
theorem dX5_set_15 : decode cX5_set 15 = .ok (.aload_n 0, 1) := by decide +kernel
theorem dX5_set_16 : decode cX5_set 16 = .ok (.getfield 7, 3) := by decide +kernel
theorem dX5_set_19 : decode cX5_set 19 = .ok (.iload_n 1, 1) := by decide +kernel
theorem dX5_set_20 : decode cX5_set 20 = .ok (.iaload, 1) := by decide +kernel
theorem dX5_set_21 : decode cX5_set 21 = .ok (.istore_n 3, 1) := by decide +kernel
theorem dX5_set_22 : decode cX5_set 22 = .ok (.aload_n 0, 1) := by decide +kernel
theorem dX5_set_23 : decode cX5_set 23 = .ok (.getfield 7, 3) := by decide +kernel
theorem dX5_set_26 : decode cX5_set 26 = .ok (.iload_n 1, 1) := by decide +kernel
theorem dX5_set_27 : decode cX5_set 27 = .ok (.iload_n 2, 1) := by decide +kernel
theorem dX5_set_28 : decode cX5_set 28 = .ok (.iastore, 1) := by decide +kernel
theorem dX5_set_29 : decode cX5_set 29 = .ok (.iload_n 3, 1) := by decide +kernel
theorem dX5_set_30 : decode cX5_set 30 = .ok (.ireturn, 1) := by decide +kernel
set_option maxRecDepth 20000 in
theorem ggX5_add_X5_in : GoodIn wsX5_add wsX5_in := goodIn_r _ [5] (by decide +kernel) (by decide +kernel)
set_option maxRecDepth 20000 in
theorem gX5_add_X5_in : GoodIn wsX5_add (va_wsS RX5 30 yX5_in wsX5_in) := goodIn_app (goodIn_of _ (by decide +kernel)) ggX5_add_X5_in
set_option maxRecDepth 20000 in
theorem ggX5_add_X5_record : GoodIn wsX5_add wsX5_record := goodIn_r _ [9, 10, 11, 1, 12, 13, 4, 14, 15, 16, 17, 18, 19, 20, 21, 22, 23, 24, 25, 26] (by decide +kernel) (by decide +kernel)
set_option maxRecDepth 20000 in
theorem gX5_add_X5_record : GoodIn wsX5_add (wsV RX5 42 RX5 yX5_record wsX5_record) := goodIn_app (goodIn_of _ (by decide +kernel)) ggX5_add_X5_record
theorem dX5_add_0 : decode cX5_add 0 = .ok (.iload_n 1, 1) := by decide +kernel
theorem dX5_add_1 : decode cX5_add 1 = .ok (.iconst 0, 1) := by decide +kernel
theorem dX5_add_2 : decode cX5_add 2 = .ok (.iconst 4, 1) := by decide +kernel
theorem dX5_add_3 : decode cX5_add 3 = .ok (.invokestatic 30, 3) := by decide +kernel
theorem dX5_add_6 : decode cX5_add 6 = .ok (.ifCond .eq 13, 3) := by decide +kernel
theorem dX5_add_9 : decode cX5_add 9 = .ok (.iload_n 2, 1) := by decide +kernel
theorem dX5_add_10 : decode cX5_add 10 = .ok (.iconst 1, 1) := by decide +kernel
theorem dX5_add_11 : decode cX5_add 11 = .ok (.bipush 99, 2) := by decide +kernel
theorem dX5_add_13 : decode cX5_add 13 = .ok (.invokestatic 30, 3) := by decide +kernel
theorem dX5_add_16 : decode cX5_add 16 = .ok (.ifCond .ne 6, 3) := by decide +kernel
theorem dX5_add_19 : decode cX5_add 19 = .ok (.bipush (-2), 2) := by decide +kernel
theorem dX5_add_21 : decode cX5_add 21 = .ok (.ireturn, 1) := by decide +kernel
theorem dX5_add_22 : decode cX5_add 22 = .ok (.aload_n 0, 1) := by decide +kernel
theorem dX5_add_23 : decode cX5_add 23 = .ok (.getfield 7, 3) := by decide +kernel
theorem dX5_add_26 : decode cX5_add 26 = .ok (.iconst 5, 1) := by decide +kernel
theorem dX5_add_27 : decode cX5_add 27 = .ok (.iaload, 1) := by decide +kernel
theorem dX5_add_28 : decode cX5_add 28 = .ok (.bipush 12, 2) := by decide +kernel
theorem dX5_add_30 : decode cX5_add 30 = .ok (.if_icmp .ne 6, 3) := by decide +kernel
theorem dX5_add_33 : decode cX5_add 33 = .ok (.bipush (-4), 2) := by decide +kernel
theorem dX5_add_35 : decode cX5_add 35 = .ok (.ireturn, 1) := by decide +kernel
theorem dX5_add_36 : decode cX5_add 36 = .ok (.aload_n 0, 1) := by decide +kernel
theorem dX5_add_37 : decode cX5_add 37 = .ok (.invokevirtual 42, 3) := by decide +kernel
theorem dX5_add_40 : decode cX5_add 40 = .ok (.bipush 18, 2) := by decide +kernel
theorem dX5_add_42 : decode cX5_add 42 = .ok (.iconst 3, 1) := by decide +kernel
theorem dX5_add_43 : decode cX5_add 43 = .ok (.aload_n 0, 1) := by decide +kernel
theorem dX5_add_44 : decode cX5_add 44 = .ok (.getfield 7, 3) := by decide +kernel
theorem dX5_add_47 : decode cX5_add 47 = .ok (.iconst 5, 1) := by decide +kernel
theorem dX5_add_48 : decode cX5_add 48 = .ok (.iaload, 1) := by decide +kernel
theorem dX5_add_49 : decode cX5_add 49 = .ok (.imul, 1) := by decide +kernel
theorem dX5_add_50 : decode cX5_add 50 = .ok (.iadd, 1) := by decide +kernel
theorem dX5_add_51 : decode cX5_add 51 = .ok (.istore_n 3, 1) := by decide +kernel
theorem dX5_add_52 : decode cX5_add 52 = .ok (.aload_n 0, 1) := by decide +kernel
theorem dX5_add_53 : decode cX5_add 53 = .ok (.getfield 7, 3) := by decide +kernel
theorem dX5_add_56 : decode cX5_add 56 = .ok (.iload_n 3, 1) := by decide +kernel
theorem dX5_add_57 : decode cX5_add 57 = .ok (.iconst 0, 1) := by decide +kernel
theorem dX5_add_58 : decode cX5_add 58 = .ok (.iadd, 1) := by decide +kernel
theorem dX5_add_59 : decode cX5_add 59 = .ok (.iload_n 1, 1) := by decide +kernel
theorem dX5_add_60 : decode cX5_add 60 = .ok (.iastore, 1) := by decide +kernel
theorem dX5_add_61 : decode cX5_add 61 = .ok (.aload_n 0, 1) := by decide +kernel
theorem dX5_add_62 : decode cX5_add 62 = .ok (.getfield 7, 3) := by decide +kernel
theorem dX5_add_65 : decode cX5_add 65 = .ok (.iload_n 3, 1) := by decide +kernel
theorem dX5_add_66 : decode cX5_add 66 = .ok (.iconst 1, 1) := by decide +kernel
theorem dX5_add_67 : decode cX5_add 67 = .ok (.iadd, 1) := by decide +kernel
theorem dX5_add_68 : decode cX5_add 68 = .ok (.iload_n 2, 1) := by decide +kernel
theorem dX5_add_69 : decode cX5_add 69 = .ok (.iastore, 1) := by decide +kernel
theorem dX5_add_70 : decode cX5_add 70 = .ok (.aload_n 0, 1) := by decide +kernel
theorem dX5_add_71 : decode cX5_add 71 = .ok (.getfield 7, 3) := by decide +kernel
theorem dX5_add_74 : decode cX5_add 74 = .ok (.iload_n 3, 1) := by decide +kernel
theorem dX5_add_75 : decode cX5_add 75 = .ok (.iconst 2, 1) := by decide +kernel
theorem dX5_add_76 : decode cX5_add 76 = .ok (.iadd, 1) := by decide +kernel
theorem dX5_add_77 : decode cX5_add 77 = .ok (.iconst 0, 1) := by decide +kernel
theorem dX5_add_78 : decode cX5_add 78 = .ok (.iastore, 1) := by decide +kernel
theorem dX5_add_79 : decode cX5_add 79 = .ok (.aload_n 0, 1) := by decide +kernel
theorem dX5_add_80 : decode cX5_add 80 = .ok (.getfield 7, 3) := by decide +kernel
theorem dX5_add_83 : decode cX5_add 83 = .ok (.iconst 5, 1) := by decide +kernel
theorem dX5_add_84 : decode cX5_add 84 = .ok (.dup2, 1) := by decide +kernel
theorem dX5_add_85 : decode cX5_add 85 = .ok (.iaload, 1) := by decide +kernel
theorem dX5_add_86 : decode cX5_add 86 = .ok (.iconst 1, 1) := by decide +kernel
theorem dX5_add_87 : decode cX5_add 87 = .ok (.iadd, 1) := by decide +kernel
theorem dX5_add_88 : decode cX5_add 88 = .ok (.iastore, 1) := by decide +kernel
theorem dX5_add_89 : decode cX5_add 89 = .ok (.aload_n 0, 1) := by decide +kernel
theorem dX5_add_90 : decode cX5_add 90 = .ok (.getfield 7, 3) := by decide +kernel
theorem dX5_add_93 : decode cX5_add 93 = .ok (.iconst 5, 1) := by decide +kernel
theorem dX5_add_94 : decode cX5_add 94 = .ok (.iaload, 1) := by decide +kernel
theorem dX5_add_95 : decode cX5_add 95 = .ok (.iconst 1, 1) := by decide +kernel
theorem dX5_add_96 : decode cX5_add 96 = .ok (.isub, 1) := by decide +kernel
theorem dX5_add_97 : decode cX5_add 97 = .ok (.ireturn, 1) := by decide +kernel
set_option maxRecDepth 20000 in
theorem ggX5_worth_X5_isExcuse : GoodIn wsX5_worth wsX5_isExcuse := goodIn_r _ [6, 1, 7, 8, 5, 9, 23, 24, 25, 26, 27, 28, 29, 30, 31, 32, 33, 34] (by decide +kernel) (by decide +kernel)
set_option maxRecDepth 20000 in
theorem gX5_worth_X5_isExcuse : GoodIn wsX5_worth (wsV RX5 79 RX5 yX5_isExcuse wsX5_isExcuse) := goodIn_app (goodIn_of _ (by decide +kernel)) ggX5_worth_X5_isExcuse
set_option maxRecDepth 20000 in
theorem ggX5_worth_X5_in : GoodIn wsX5_worth wsX5_in := goodIn_r _ [9] (by decide +kernel) (by decide +kernel)
set_option maxRecDepth 20000 in
theorem gX5_worth_X5_in : GoodIn wsX5_worth (va_wsS RX5 30 yX5_in wsX5_in) := goodIn_app (goodIn_of _ (by decide +kernel)) ggX5_worth_X5_in
set_option maxRecDepth 20000 in
theorem ggX5_worth_X5_record : GoodIn wsX5_worth wsX5_record := goodIn_r _ [13, 14, 15, 1, 16, 17, 5, 18, 23, 24, 25, 26, 27, 28, 29, 30, 31, 32, 33, 34] (by decide +kernel) (by decide +kernel)
set_option maxRecDepth 20000 in
theorem gX5_worth_X5_record : GoodIn wsX5_worth (wsV RX5 42 RX5 yX5_record wsX5_record) := goodIn_app (goodIn_of _ (by decide +kernel)) ggX5_worth_X5_record
set_option maxRecDepth 20000 in
theorem ggX5_worth_X5_ofExcuse : GoodIn wsX5_worth wsX5_ofExcuse := goodIn_r _ [22, 1, 23, 24, 25, 26, 27, 28, 29, 30, 31, 32, 33, 34] (by decide +kernel) (by decide +kernel)
set_option maxRecDepth 20000 in
theorem gX5_worth_X5_ofExcuse : GoodIn wsX5_worth (wsV RX5 59 RX5 yX5_ofExcuse wsX5_ofExcuse) := goodIn_app (goodIn_of _ (by decide +kernel)) ggX5_worth_X5_ofExcuse
theorem dX5_worth_0 : decode cX5_worth 0 = .ok (.aload_n 0, 1) := by decide +kernel
theorem dX5_worth_1 : decode cX5_worth 1 = .ok (.iload_n 1, 1) := by decide +kernel
theorem dX5_worth_2 : decode cX5_worth 2 = .ok (.invokevirtual 79, 3) := by decide +kernel
theorem dX5_worth_5 : decode cX5_worth 5 = .ok (.ifCond .ne 5, 3) := by decide +kernel
theorem dX5_worth_8 : decode cX5_worth 8 = .ok (.iconst (-1), 1) := by decide +kernel
theorem dX5_worth_9 : decode cX5_worth 9 = .ok (.ireturn, 1) := by decide +kernel
theorem dX5_worth_10 : decode cX5_worth 10 = .ok (.iload_n 2, 1) := by decide +kernel
theorem dX5_worth_11 : decode cX5_worth 11 = .ok (.iconst 1, 1) := by decide +kernel
theorem dX5_worth_12 : decode cX5_worth 12 = .ok (.bipush 99, 2) := by decide +kernel
theorem dX5_worth_14 : decode cX5_worth 14 = .ok (.invokestatic 30, 3) := by decide +kernel
theorem dX5_worth_17 : decode cX5_worth 17 = .ok (.ifCond .ne 6, 3) := by decide +kernel
theorem dX5_worth_20 : decode cX5_worth 20 = .ok (.bipush (-2), 2) := by decide +kernel
theorem dX5_worth_22 : decode cX5_worth 22 = .ok (.ireturn, 1) := by decide +kernel
theorem dX5_worth_23 : decode cX5_worth 23 = .ok (.aload_n 0, 1) := by decide +kernel
theorem dX5_worth_24 : decode cX5_worth 24 = .ok (.invokevirtual 42, 3) := by decide +kernel
theorem dX5_worth_27 : decode cX5_worth 27 = .ok (.aload_n 0, 1) := by decide +kernel
theorem dX5_worth_28 : decode cX5_worth 28 = .ok (.iload_n 1, 1) := by decide +kernel
theorem dX5_worth_29 : decode cX5_worth 29 = .ok (.iconst 1, 1) := by decide +kernel
theorem dX5_worth_30 : decode cX5_worth 30 = .ok (.invokevirtual 59, 3) := by decide +kernel
theorem dX5_worth_33 : decode cX5_worth 33 = .ok (.istore_n 3, 1) := by decide +kernel
theorem dX5_worth_34 : decode cX5_worth 34 = .ok (.aload_n 0, 1) := by decide +kernel
theorem dX5_worth_35 : decode cX5_worth 35 = .ok (.getfield 7, 3) := by decide +kernel
theorem dX5_worth_38 : decode cX5_worth 38 = .ok (.bipush 18, 2) := by decide +kernel
theorem dX5_worth_40 : decode cX5_worth 40 = .ok (.iconst 3, 1) := by decide +kernel
theorem dX5_worth_41 : decode cX5_worth 41 = .ok (.iload_n 1, 1) := by decide +kernel
theorem dX5_worth_42 : decode cX5_worth 42 = .ok (.imul, 1) := by decide +kernel
theorem dX5_worth_43 : decode cX5_worth 43 = .ok (.iadd, 1) := by decide +kernel
theorem dX5_worth_44 : decode cX5_worth 44 = .ok (.iconst 1, 1) := by decide +kernel
theorem dX5_worth_45 : decode cX5_worth 45 = .ok (.iadd, 1) := by decide +kernel
theorem dX5_worth_46 : decode cX5_worth 46 = .ok (.iload_n 2, 1) := by decide +kernel
theorem dX5_worth_47 : decode cX5_worth 47 = .ok (.iastore, 1) := by decide +kernel
theorem dX5_worth_48 : decode cX5_worth 48 = .ok (.iload_n 3, 1) := by decide +kernel
theorem dX5_worth_49 : decode cX5_worth 49 = .ok (.ireturn, 1) := by decide +kernel
set_option maxRecDepth 20000 in
theorem ggX5_whyNotOffer_X5_isPupil : GoodIn wsX5_whyNotOffer wsX5_isPupil := goodIn_r _ [4, 5, 6, 3, 7] (by decide +kernel) (by decide +kernel)
set_option maxRecDepth 20000 in
theorem gX5_whyNotOffer_X5_isPupil : GoodIn wsX5_whyNotOffer (va_wsS RX5 83 yX5_isPupil wsX5_isPupil) := goodIn_app (goodIn_of _ (by decide +kernel)) ggX5_whyNotOffer_X5_isPupil
set_option maxRecDepth 20000 in
theorem ggX5_whyNotOffer_X5_isExcuse : GoodIn wsX5_whyNotOffer wsX5_isExcuse := goodIn_r _ [11, 12, 5, 6, 3, 7, 13, 14, 15, 16, 17, 18, 19, 20, 21, 22, 23, 24] (by decide +kernel) (by decide +kernel)
set_option maxRecDepth 20000 in
theorem gX5_whyNotOffer_X5_isExcuse : GoodIn wsX5_whyNotOffer (wsV RX5 79 RX5 yX5_isExcuse wsX5_isExcuse) := goodIn_app (goodIn_of _ (by decide +kernel)) ggX5_whyNotOffer_X5_isExcuse
set_option maxRecDepth 20000 in
theorem ggX5_whyNotOffer_X5_in : GoodIn wsX5_whyNotOffer wsX5_in := goodIn_r _ [7] (by decide +kernel) (by decide +kernel)
set_option maxRecDepth 20000 in
theorem gX5_whyNotOffer_X5_in : GoodIn wsX5_whyNotOffer (va_wsS RX5 30 yX5_in wsX5_in) := goodIn_app (goodIn_of _ (by decide +kernel)) ggX5_whyNotOffer_X5_in
theorem dX5_whyNotOffer_0 : decode cX5_whyNotOffer 0 = .ok (.iload_n 1, 1) := by decide +kernel
theorem dX5_whyNotOffer_1 : decode cX5_whyNotOffer 1 = .ok (.invokestatic 83, 3) := by decide +kernel
theorem dX5_whyNotOffer_4 : decode cX5_whyNotOffer 4 = .ok (.ifCond .eq 24, 3) := by decide +kernel
theorem dX5_whyNotOffer_7 : decode cX5_whyNotOffer 7 = .ok (.aload_n 0, 1) := by decide +kernel
theorem dX5_whyNotOffer_8 : decode cX5_whyNotOffer 8 = .ok (.iload_n 2, 1) := by decide +kernel
theorem dX5_whyNotOffer_9 : decode cX5_whyNotOffer 9 = .ok (.invokevirtual 79, 3) := by decide +kernel
theorem dX5_whyNotOffer_12 : decode cX5_whyNotOffer 12 = .ok (.ifCond .eq 16, 3) := by decide +kernel
theorem dX5_whyNotOffer_15 : decode cX5_whyNotOffer 15 = .ok (.iload_n 3, 1) := by decide +kernel
theorem dX5_whyNotOffer_16 : decode cX5_whyNotOffer 16 = .ok (.bipush (-6), 2) := by decide +kernel
theorem dX5_whyNotOffer_18 : decode cX5_whyNotOffer 18 = .ok (.if_icmp .eq 12, 3) := by decide +kernel
theorem dX5_whyNotOffer_21 : decode cX5_whyNotOffer 21 = .ok (.iload_n 3, 1) := by decide +kernel
theorem dX5_whyNotOffer_22 : decode cX5_whyNotOffer 22 = .ok (.invokestatic 83, 3) := by decide +kernel
theorem dX5_whyNotOffer_25 : decode cX5_whyNotOffer 25 = .ok (.ifCond .ne 5, 3) := by decide +kernel
theorem dX5_whyNotOffer_28 : decode cX5_whyNotOffer 28 = .ok (.iconst (-1), 1) := by decide +kernel
theorem dX5_whyNotOffer_29 : decode cX5_whyNotOffer 29 = .ok (.ireturn, 1) := by decide +kernel
theorem dX5_whyNotOffer_30 : decode cX5_whyNotOffer 30 = .ok (.iload 4, 2) := by decide +kernel
theorem dX5_whyNotOffer_32 : decode cX5_whyNotOffer 32 = .ok (.iconst 1, 1) := by decide +kernel
theorem dX5_whyNotOffer_33 : decode cX5_whyNotOffer 33 = .ok (.bipush 99, 2) := by decide +kernel
theorem dX5_whyNotOffer_35 : decode cX5_whyNotOffer 35 = .ok (.invokestatic 30, 3) := by decide +kernel
theorem dX5_whyNotOffer_38 : decode cX5_whyNotOffer 38 = .ok (.ifCond .eq 12, 3) := by decide +kernel
theorem dX5_whyNotOffer_41 : decode cX5_whyNotOffer 41 = .ok (.iload_n 3, 1) := by decide +kernel
theorem dX5_whyNotOffer_42 : decode cX5_whyNotOffer 42 = .ok (.iload_n 1, 1) := by decide +kernel
theorem dX5_whyNotOffer_43 : decode cX5_whyNotOffer 43 = .ok (.if_icmp .eq 7, 3) := by decide +kernel
theorem dX5_whyNotOffer_46 : decode cX5_whyNotOffer 46 = .ok (.iconst 0, 1) := by decide +kernel
theorem dX5_whyNotOffer_47 : decode cX5_whyNotOffer 47 = .ok (.goto 5, 3) := by decide +kernel
theorem dX5_whyNotOffer_50 : decode cX5_whyNotOffer 50 = .ok (.bipush (-2), 2) := by decide +kernel
theorem dX5_whyNotOffer_52 : decode cX5_whyNotOffer 52 = .ok (.ireturn, 1) := by decide +kernel
theorem dX5_angers_0 : decode cX5_angers 0 = .ok (.bipush 13, 2) := by decide +kernel
theorem dX5_angers_2 : decode cX5_angers 2 = .ok (.iload_n 1, 1) := by decide +kernel
theorem dX5_angers_3 : decode cX5_angers 3 = .ok (.iconst 2, 1) := by decide +kernel
theorem dX5_angers_4 : decode cX5_angers 4 = .ok (.idiv, 1) := by decide +kernel
theorem dX5_angers_5 : decode cX5_angers 5 = .ok (.iadd, 1) := by decide +kernel
theorem dX5_angers_6 : decode cX5_angers 6 = .ok (.istore_n 2, 1) := by decide +kernel
theorem dX5_angers_7 : decode cX5_angers 7 = .ok (.aload_n 0, 1) := by decide +kernel
theorem dX5_angers_8 : decode cX5_angers 8 = .ok (.getfield 7, 3) := by decide +kernel
theorem dX5_angers_11 : decode cX5_angers 11 = .ok (.iload_n 2, 1) := by decide +kernel
theorem dX5_angers_12 : decode cX5_angers 12 = .ok (.aload_n 0, 1) := by decide +kernel
theorem dX5_angers_13 : decode cX5_angers 13 = .ok (.getfield 7, 3) := by decide +kernel
theorem dX5_angers_16 : decode cX5_angers 16 = .ok (.iload_n 2, 1) := by decide +kernel
theorem dX5_angers_17 : decode cX5_angers 17 = .ok (.iaload, 1) := by decide +kernel
theorem dX5_angers_18 : decode cX5_angers 18 = .ok (.bipush 9, 2) := by decide +kernel
theorem dX5_angers_20 : decode cX5_angers 20 = .ok (.if_icmp .ge 14, 3) := by decide +kernel
theorem dX5_angers_23 : decode cX5_angers 23 = .ok (.aload_n 0, 1) := by decide +kernel
theorem dX5_angers_24 : decode cX5_angers 24 = .ok (.getfield 7, 3) := by decide +kernel
theorem dX5_angers_27 : decode cX5_angers 27 = .ok (.iload_n 2, 1) := by decide +kernel
theorem dX5_angers_28 : decode cX5_angers 28 = .ok (.iaload, 1) := by decide +kernel
theorem dX5_angers_29 : decode cX5_angers 29 = .ok (.iconst 1, 1) := by decide +kernel
theorem dX5_angers_30 : decode cX5_angers 30 = .ok (.iadd, 1) := by decide +kernel
theorem dX5_angers_31 : decode cX5_angers 31 = .ok (.goto 5, 3) := by decide +kernel
theorem dX5_angers_34 : decode cX5_angers 34 = .ok (.bipush 9, 2) := by decide +kernel
theorem dX5_angers_36 : decode cX5_angers 36 = .ok (.iastore, 1) := by decide +kernel
theorem dX5_angers_37 : decode cX5_angers 37 = .ok (.return_, 1) := by decide +kernel
set_option maxRecDepth 20000 in
theorem ggX5_loses_X5_of : GoodIn wsX5_loses wsX5_of := goodIn_r _ [5, 6, 11, 12, 13, 14, 15, 16, 17, 18, 19, 20, 21, 22] (by decide +kernel) (by decide +kernel)
set_option maxRecDepth 20000 in
theorem gX5_loses_X5_of : GoodIn wsX5_loses (wsV RX5 56 RX5 yX5_of wsX5_of) := goodIn_app (goodIn_of _ (by decide +kernel)) ggX5_loses_X5_of
set_option maxRecDepth 20000 in
theorem ggX5_loses_X5_lay : GoodIn wsX5_loses wsX5_lay := goodIn_r _ [10, 6, 11, 12, 13, 14, 15, 16, 17, 18, 19, 20, 21, 22] (by decide +kernel) (by decide +kernel)
set_option maxRecDepth 20000 in
theorem gX5_loses_X5_lay : GoodIn wsX5_loses (wsV RX5 26 RX5 yX5_lay wsX5_lay) := goodIn_app (goodIn_of _ (by decide +kernel)) ggX5_loses_X5_lay
theorem dX5_loses_0 : decode cX5_loses 0 = .ok (.iload_n 1, 1) := by decide +kernel
theorem dX5_loses_1 : decode cX5_loses 1 = .ok (.bipush (-6), 2) := by decide +kernel
theorem dX5_loses_3 : decode cX5_loses 3 = .ok (.if_icmp .eq 27, 3) := by decide +kernel
theorem dX5_loses_6 : decode cX5_loses 6 = .ok (.aload_n 0, 1) := by decide +kernel
theorem dX5_loses_7 : decode cX5_loses 7 = .ok (.iload_n 1, 1) := by decide +kernel
theorem dX5_loses_8 : decode cX5_loses 8 = .ok (.iconst 0, 1) := by decide +kernel
theorem dX5_loses_9 : decode cX5_loses 9 = .ok (.invokevirtual 56, 3) := by decide +kernel
theorem dX5_loses_12 : decode cX5_loses 12 = .ok (.iload_n 2, 1) := by decide +kernel
theorem dX5_loses_13 : decode cX5_loses 13 = .ok (.isub, 1) := by decide +kernel
theorem dX5_loses_14 : decode cX5_loses 14 = .ok (.istore_n 3, 1) := by decide +kernel
theorem dX5_loses_15 : decode cX5_loses 15 = .ok (.aload_n 0, 1) := by decide +kernel
theorem dX5_loses_16 : decode cX5_loses 16 = .ok (.iload_n 1, 1) := by decide +kernel
theorem dX5_loses_17 : decode cX5_loses 17 = .ok (.iconst 0, 1) := by decide +kernel
theorem dX5_loses_18 : decode cX5_loses 18 = .ok (.iload_n 3, 1) := by decide +kernel
theorem dX5_loses_19 : decode cX5_loses 19 = .ok (.ifCond .ge 7, 3) := by decide +kernel
theorem dX5_loses_22 : decode cX5_loses 22 = .ok (.iconst 0, 1) := by decide +kernel
theorem dX5_loses_23 : decode cX5_loses 23 = .ok (.goto 4, 3) := by decide +kernel
theorem dX5_loses_26 : decode cX5_loses 26 = .ok (.iload_n 3, 1) := by decide +kernel
theorem dX5_loses_27 : decode cX5_loses 27 = .ok (.invokevirtual 26, 3) := by decide +kernel
theorem dX5_loses_30 : decode cX5_loses 30 = .ok (.return_, 1) := by decide +kernel
set_option maxRecDepth 20000 in
theorem ggX5_offerNow_X5_reason : GoodIn wsX5_offerNow wsX5_reason := goodIn_r _ [6, 1, 7, 8, 9, 5, 10, 11, 12, 13, 14, 15, 16, 17, 18, 19, 20, 21, 22, 23, 24, 25, 26, 27, 28, 29, 30, 31, 32, 33, 34, 35, 36, 37, 38, 39, 40, 41, 42, 55, 56, 57, 58, 59, 60, 61, 62, 63, 64, 65, 66] (by decide +kernel) (by decide +kernel)
set_option maxRecDepth 20000 in
theorem gX5_offerNow_X5_reason : GoodIn wsX5_offerNow (wsV RX5 86 RX5 yX5_reason wsX5_reason) := goodIn_app (goodIn_of _ (by decide +kernel)) ggX5_offerNow_X5_reason
set_option maxRecDepth 20000 in
theorem ggX5_offerNow_X5_ofExcuse : GoodIn wsX5_offerNow wsX5_ofExcuse := goodIn_r _ [18, 1, 55, 56, 57, 58, 59, 60, 61, 62, 63, 64, 65, 66] (by decide +kernel) (by decide +kernel)
set_option maxRecDepth 20000 in
theorem gX5_offerNow_X5_ofExcuse : GoodIn wsX5_offerNow (wsV RX5 59 RX5 yX5_ofExcuse wsX5_ofExcuse) := goodIn_app (goodIn_of _ (by decide +kernel)) ggX5_offerNow_X5_ofExcuse
set_option maxRecDepth 20000 in
theorem ggX5_offerNow_X5_lay : GoodIn wsX5_offerNow wsX5_lay := goodIn_r _ [46, 1, 55, 56, 57, 58, 59, 60, 61, 62, 63, 64, 65, 66] (by decide +kernel) (by decide +kernel)
set_option maxRecDepth 20000 in
theorem gX5_offerNow_X5_lay : GoodIn wsX5_offerNow (wsV RX5 26 RX5 yX5_lay wsX5_lay) := goodIn_app (goodIn_of _ (by decide +kernel)) ggX5_offerNow_X5_lay
set_option maxRecDepth 20000 in
theorem ggX5_offerNow_X5_of : GoodIn wsX5_offerNow wsX5_of := goodIn_r _ [14, 1, 55, 56, 57, 58, 59, 60, 61, 62, 63, 64, 65, 66] (by decide +kernel) (by decide +kernel)
set_option maxRecDepth 20000 in
theorem gX5_offerNow_X5_of : GoodIn wsX5_offerNow (wsV RX5 56 RX5 yX5_of wsX5_of) := goodIn_app (goodIn_of _ (by decide +kernel)) ggX5_offerNow_X5_of
set_option maxRecDepth 20000 in
theorem ggX5_offerNow_X5_angers : GoodIn wsX5_offerNow wsX5_angers := goodIn_r _ [50, 1, 55, 56, 57, 58, 59, 60, 61, 62, 63, 64, 65, 66] (by decide +kernel) (by decide +kernel)
set_option maxRecDepth 20000 in
theorem gX5_offerNow_X5_angers : GoodIn wsX5_offerNow (wsV RX5 89 RX5 yX5_angers wsX5_angers) := goodIn_app (goodIn_of _ (by decide +kernel)) ggX5_offerNow_X5_angers
set_option maxRecDepth 20000 in
theorem ggX5_offerNow_X5_loses : GoodIn wsX5_offerNow wsX5_loses := goodIn_r _ [54, 11, 12, 13, 5, 14, 1, 43, 44, 45, 46, 55, 56, 57, 58, 59, 60, 61, 62, 63, 64, 65, 66] (by decide +kernel) (by decide +kernel)
set_option maxRecDepth 20000 in
theorem gX5_offerNow_X5_loses : GoodIn wsX5_offerNow (wsV RX5 93 RX5 yX5_loses wsX5_loses) := goodIn_app (goodIn_of _ (by decide +kernel)) ggX5_offerNow_X5_loses
theorem dX5_offerNow_0 : decode cX5_offerNow 0 = .ok (.aload_n 0, 1) := by decide +kernel
theorem dX5_offerNow_1 : decode cX5_offerNow 1 = .ok (.iload_n 1, 1) := by decide +kernel
theorem dX5_offerNow_2 : decode cX5_offerNow 2 = .ok (.iload_n 2, 1) := by decide +kernel
theorem dX5_offerNow_3 : decode cX5_offerNow 3 = .ok (.iload_n 3, 1) := by decide +kernel
theorem dX5_offerNow_4 : decode cX5_offerNow 4 = .ok (.iload 4, 2) := by decide +kernel
theorem dX5_offerNow_6 : decode cX5_offerNow 6 = .ok (.invokevirtual 86, 3) := by decide +kernel
theorem dX5_offerNow_9 : decode cX5_offerNow 9 = .ok (.istore 5, 2) := by decide +kernel
theorem dX5_offerNow_11 : decode cX5_offerNow 11 = .ok (.aload_n 0, 1) := by decide +kernel
theorem dX5_offerNow_12 : decode cX5_offerNow 12 = .ok (.iload_n 1, 1) := by decide +kernel
theorem dX5_offerNow_13 : decode cX5_offerNow 13 = .ok (.iconst 4, 1) := by decide +kernel
theorem dX5_offerNow_14 : decode cX5_offerNow 14 = .ok (.aload_n 0, 1) := by decide +kernel
theorem dX5_offerNow_15 : decode cX5_offerNow 15 = .ok (.iload_n 2, 1) := by decide +kernel
theorem dX5_offerNow_16 : decode cX5_offerNow 16 = .ok (.iconst 0, 1) := by decide +kernel
theorem dX5_offerNow_17 : decode cX5_offerNow 17 = .ok (.invokevirtual 59, 3) := by decide +kernel
theorem dX5_offerNow_20 : decode cX5_offerNow 20 = .ok (.invokevirtual 26, 3) := by decide +kernel
theorem dX5_offerNow_23 : decode cX5_offerNow 23 = .ok (.iload 5, 2) := by decide +kernel
theorem dX5_offerNow_25 : decode cX5_offerNow 25 = .ok (.ifCond .le 77, 3) := by decide +kernel
theorem dX5_offerNow_28 : decode cX5_offerNow 28 = .ok (.aload_n 0, 1) := by decide +kernel
theorem dX5_offerNow_29 : decode cX5_offerNow 29 = .ok (.getfield 7, 3) := by decide +kernel
theorem dX5_offerNow_32 : decode cX5_offerNow 32 = .ok (.bipush 6, 2) := by decide +kernel
theorem dX5_offerNow_34 : decode cX5_offerNow 34 = .ok (.iload 5, 2) := by decide +kernel
theorem dX5_offerNow_36 : decode cX5_offerNow 36 = .ok (.iadd, 1) := by decide +kernel
theorem dX5_offerNow_37 : decode cX5_offerNow 37 = .ok (.dup2, 1) := by decide +kernel
theorem dX5_offerNow_38 : decode cX5_offerNow 38 = .ok (.iaload, 1) := by decide +kernel
theorem dX5_offerNow_39 : decode cX5_offerNow 39 = .ok (.iconst 1, 1) := by decide +kernel
theorem dX5_offerNow_40 : decode cX5_offerNow 40 = .ok (.iadd, 1) := by decide +kernel
theorem dX5_offerNow_41 : decode cX5_offerNow 41 = .ok (.iastore, 1) := by decide +kernel
theorem dX5_offerNow_42 : decode cX5_offerNow 42 = .ok (.aload_n 0, 1) := by decide +kernel
theorem dX5_offerNow_43 : decode cX5_offerNow 43 = .ok (.iload_n 1, 1) := by decide +kernel
theorem dX5_offerNow_44 : decode cX5_offerNow 44 = .ok (.iconst 3, 1) := by decide +kernel
theorem dX5_offerNow_45 : decode cX5_offerNow 45 = .ok (.aload_n 0, 1) := by decide +kernel
theorem dX5_offerNow_46 : decode cX5_offerNow 46 = .ok (.iload_n 1, 1) := by decide +kernel
theorem dX5_offerNow_47 : decode cX5_offerNow 47 = .ok (.iconst 3, 1) := by decide +kernel
theorem dX5_offerNow_48 : decode cX5_offerNow 48 = .ok (.invokevirtual 56, 3) := by decide +kernel
theorem dX5_offerNow_51 : decode cX5_offerNow 51 = .ok (.iconst 1, 1) := by decide +kernel
theorem dX5_offerNow_52 : decode cX5_offerNow 52 = .ok (.iadd, 1) := by decide +kernel
theorem dX5_offerNow_53 : decode cX5_offerNow 53 = .ok (.invokevirtual 26, 3) := by decide +kernel
theorem dX5_offerNow_56 : decode cX5_offerNow 56 = .ok (.aload_n 0, 1) := by decide +kernel
theorem dX5_offerNow_57 : decode cX5_offerNow 57 = .ok (.iload_n 1, 1) := by decide +kernel
theorem dX5_offerNow_58 : decode cX5_offerNow 58 = .ok (.iconst 1, 1) := by decide +kernel
theorem dX5_offerNow_59 : decode cX5_offerNow 59 = .ok (.aload_n 0, 1) := by decide +kernel
theorem dX5_offerNow_60 : decode cX5_offerNow 60 = .ok (.iload_n 1, 1) := by decide +kernel
theorem dX5_offerNow_61 : decode cX5_offerNow 61 = .ok (.iconst 1, 1) := by decide +kernel
theorem dX5_offerNow_62 : decode cX5_offerNow 62 = .ok (.invokevirtual 56, 3) := by decide +kernel
theorem dX5_offerNow_65 : decode cX5_offerNow 65 = .ok (.aload_n 0, 1) := by decide +kernel
theorem dX5_offerNow_66 : decode cX5_offerNow 66 = .ok (.getfield 7, 3) := by decide +kernel
theorem dX5_offerNow_69 : decode cX5_offerNow 69 = .ok (.iconst 3, 1) := by decide +kernel
theorem dX5_offerNow_70 : decode cX5_offerNow 70 = .ok (.iaload, 1) := by decide +kernel
theorem dX5_offerNow_71 : decode cX5_offerNow 71 = .ok (.iload 4, 2) := by decide +kernel
theorem dX5_offerNow_73 : decode cX5_offerNow 73 = .ok (.imul, 1) := by decide +kernel
theorem dX5_offerNow_74 : decode cX5_offerNow 74 = .ok (.iadd, 1) := by decide +kernel
theorem dX5_offerNow_75 : decode cX5_offerNow 75 = .ok (.invokevirtual 26, 3) := by decide +kernel
theorem dX5_offerNow_78 : decode cX5_offerNow 78 = .ok (.aload_n 0, 1) := by decide +kernel
theorem dX5_offerNow_79 : decode cX5_offerNow 79 = .ok (.iload_n 1, 1) := by decide +kernel
theorem dX5_offerNow_80 : decode cX5_offerNow 80 = .ok (.invokevirtual 89, 3) := by decide +kernel
theorem dX5_offerNow_83 : decode cX5_offerNow 83 = .ok (.aload_n 0, 1) := by decide +kernel
theorem dX5_offerNow_84 : decode cX5_offerNow 84 = .ok (.iload_n 3, 1) := by decide +kernel
theorem dX5_offerNow_85 : decode cX5_offerNow 85 = .ok (.iload 5, 2) := by decide +kernel
theorem dX5_offerNow_87 : decode cX5_offerNow 87 = .ok (.iconst 4, 1) := by decide +kernel
theorem dX5_offerNow_88 : decode cX5_offerNow 88 = .ok (.if_icmp .ne 7, 3) := by decide +kernel
theorem dX5_offerNow_91 : decode cX5_offerNow 91 = .ok (.iconst 2, 1) := by decide +kernel
theorem dX5_offerNow_92 : decode cX5_offerNow 92 = .ok (.goto 4, 3) := by decide +kernel
theorem dX5_offerNow_95 : decode cX5_offerNow 95 = .ok (.iconst 0, 1) := by decide +kernel
theorem dX5_offerNow_96 : decode cX5_offerNow 96 = .ok (.invokevirtual 93, 3) := by decide +kernel
theorem dX5_offerNow_99 : decode cX5_offerNow 99 = .ok (.iload 5, 2) := by decide +kernel
theorem dX5_offerNow_101 : decode cX5_offerNow 101 = .ok (.ireturn, 1) := by decide +kernel
theorem dX5_offerNow_102 : decode cX5_offerNow 102 = .ok (.aload_n 0, 1) := by decide +kernel
theorem dX5_offerNow_103 : decode cX5_offerNow 103 = .ok (.getfield 7, 3) := by decide +kernel
theorem dX5_offerNow_106 : decode cX5_offerNow 106 = .ok (.bipush 6, 2) := by decide +kernel
theorem dX5_offerNow_108 : decode cX5_offerNow 108 = .ok (.dup2, 1) := by decide +kernel
theorem dX5_offerNow_109 : decode cX5_offerNow 109 = .ok (.iaload, 1) := by decide +kernel
theorem dX5_offerNow_110 : decode cX5_offerNow 110 = .ok (.iconst 1, 1) := by decide +kernel
theorem dX5_offerNow_111 : decode cX5_offerNow 111 = .ok (.iadd, 1) := by decide +kernel
theorem dX5_offerNow_112 : decode cX5_offerNow 112 = .ok (.iastore, 1) := by decide +kernel
theorem dX5_offerNow_113 : decode cX5_offerNow 113 = .ok (.aload_n 0, 1) := by decide +kernel
theorem dX5_offerNow_114 : decode cX5_offerNow 114 = .ok (.getfield 7, 3) := by decide +kernel
theorem dX5_offerNow_117 : decode cX5_offerNow 117 = .ok (.bipush 12, 2) := by decide +kernel
theorem dX5_offerNow_119 : decode cX5_offerNow 119 = .ok (.dup2, 1) := by decide +kernel
theorem dX5_offerNow_120 : decode cX5_offerNow 120 = .ok (.iaload, 1) := by decide +kernel
theorem dX5_offerNow_121 : decode cX5_offerNow 121 = .ok (.iconst 1, 1) := by decide +kernel
theorem dX5_offerNow_122 : decode cX5_offerNow 122 = .ok (.iadd, 1) := by decide +kernel
theorem dX5_offerNow_123 : decode cX5_offerNow 123 = .ok (.iastore, 1) := by decide +kernel
theorem dX5_offerNow_124 : decode cX5_offerNow 124 = .ok (.aload_n 0, 1) := by decide +kernel
theorem dX5_offerNow_125 : decode cX5_offerNow 125 = .ok (.iload_n 1, 1) := by decide +kernel
theorem dX5_offerNow_126 : decode cX5_offerNow 126 = .ok (.iconst 2, 1) := by decide +kernel
theorem dX5_offerNow_127 : decode cX5_offerNow 127 = .ok (.aload_n 0, 1) := by decide +kernel
theorem dX5_offerNow_128 : decode cX5_offerNow 128 = .ok (.iload_n 1, 1) := by decide +kernel
theorem dX5_offerNow_129 : decode cX5_offerNow 129 = .ok (.iconst 2, 1) := by decide +kernel
theorem dX5_offerNow_130 : decode cX5_offerNow 130 = .ok (.invokevirtual 56, 3) := by decide +kernel
theorem dX5_offerNow_133 : decode cX5_offerNow 133 = .ok (.iconst 1, 1) := by decide +kernel
theorem dX5_offerNow_134 : decode cX5_offerNow 134 = .ok (.iadd, 1) := by decide +kernel
theorem dX5_offerNow_135 : decode cX5_offerNow 135 = .ok (.invokevirtual 26, 3) := by decide +kernel
theorem dX5_offerNow_138 : decode cX5_offerNow 138 = .ok (.aload_n 0, 1) := by decide +kernel
theorem dX5_offerNow_139 : decode cX5_offerNow 139 = .ok (.getfield 7, 3) := by decide +kernel
theorem dX5_offerNow_142 : decode cX5_offerNow 142 = .ok (.bipush 114, 2) := by decide +kernel
theorem dX5_offerNow_144 : decode cX5_offerNow 144 = .ok (.bipush 10, 2) := by decide +kernel
theorem dX5_offerNow_146 : decode cX5_offerNow 146 = .ok (.iload_n 2, 1) := by decide +kernel
theorem dX5_offerNow_147 : decode cX5_offerNow 147 = .ok (.imul, 1) := by decide +kernel
theorem dX5_offerNow_148 : decode cX5_offerNow 148 = .ok (.iadd, 1) := by decide +kernel
theorem dX5_offerNow_149 : decode cX5_offerNow 149 = .ok (.iload_n 1, 1) := by decide +kernel
theorem dX5_offerNow_150 : decode cX5_offerNow 150 = .ok (.iadd, 1) := by decide +kernel
theorem dX5_offerNow_151 : decode cX5_offerNow 151 = .ok (.dup2, 1) := by decide +kernel
theorem dX5_offerNow_152 : decode cX5_offerNow 152 = .ok (.iaload, 1) := by decide +kernel
theorem dX5_offerNow_153 : decode cX5_offerNow 153 = .ok (.iconst 1, 1) := by decide +kernel
theorem dX5_offerNow_154 : decode cX5_offerNow 154 = .ok (.iadd, 1) := by decide +kernel
theorem dX5_offerNow_155 : decode cX5_offerNow 155 = .ok (.iastore, 1) := by decide +kernel
theorem dX5_offerNow_156 : decode cX5_offerNow 156 = .ok (.aload_n 0, 1) := by decide +kernel
theorem dX5_offerNow_157 : decode cX5_offerNow 157 = .ok (.getfield 7, 3) := by decide +kernel
theorem dX5_offerNow_160 : decode cX5_offerNow 160 = .ok (.bipush 18, 2) := by decide +kernel
theorem dX5_offerNow_162 : decode cX5_offerNow 162 = .ok (.iconst 3, 1) := by decide +kernel
theorem dX5_offerNow_163 : decode cX5_offerNow 163 = .ok (.iload_n 2, 1) := by decide +kernel
theorem dX5_offerNow_164 : decode cX5_offerNow 164 = .ok (.imul, 1) := by decide +kernel
theorem dX5_offerNow_165 : decode cX5_offerNow 165 = .ok (.iadd, 1) := by decide +kernel
theorem dX5_offerNow_166 : decode cX5_offerNow 166 = .ok (.iconst 2, 1) := by decide +kernel
theorem dX5_offerNow_167 : decode cX5_offerNow 167 = .ok (.iadd, 1) := by decide +kernel
theorem dX5_offerNow_168 : decode cX5_offerNow 168 = .ok (.dup2, 1) := by decide +kernel
theorem dX5_offerNow_169 : decode cX5_offerNow 169 = .ok (.iaload, 1) := by decide +kernel
theorem dX5_offerNow_170 : decode cX5_offerNow 170 = .ok (.iconst 1, 1) := by decide +kernel
theorem dX5_offerNow_171 : decode cX5_offerNow 171 = .ok (.iadd, 1) := by decide +kernel
theorem dX5_offerNow_172 : decode cX5_offerNow 172 = .ok (.iastore, 1) := by decide +kernel
theorem dX5_offerNow_173 : decode cX5_offerNow 173 = .ok (.aload_n 0, 1) := by decide +kernel
theorem dX5_offerNow_174 : decode cX5_offerNow 174 = .ok (.iload_n 3, 1) := by decide +kernel
theorem dX5_offerNow_175 : decode cX5_offerNow 175 = .ok (.iconst 1, 1) := by decide +kernel
theorem dX5_offerNow_176 : decode cX5_offerNow 176 = .ok (.invokevirtual 93, 3) := by decide +kernel
theorem dX5_offerNow_179 : decode cX5_offerNow 179 = .ok (.iload 4, 2) := by decide +kernel
theorem dX5_offerNow_181 : decode cX5_offerNow 181 = .ok (.bipush 30, 2) := by decide +kernel
theorem dX5_offerNow_183 : decode cX5_offerNow 183 = .ok (.if_icmp .le 8, 3) := by decide +kernel
theorem dX5_offerNow_186 : decode cX5_offerNow 186 = .ok (.aload_n 0, 1) := by decide +kernel
theorem dX5_offerNow_187 : decode cX5_offerNow 187 = .ok (.iload_n 1, 1) := by decide +kernel
theorem dX5_offerNow_188 : decode cX5_offerNow 188 = .ok (.invokevirtual 89, 3) := by decide +kernel
theorem dX5_offerNow_191 : decode cX5_offerNow 191 = .ok (.iconst 0, 1) := by decide +kernel
theorem dX5_offerNow_192 : decode cX5_offerNow 192 = .ok (.ireturn, 1) := by decide +kernel
set_option maxRecDepth 20000 in
theorem ggX5_offer_X5_whyNotOffer : GoodIn wsX5_offer wsX5_whyNotOffer := goodIn_r _ [5, 6, 7, 4, 8, 9, 10, 11, 12, 13, 14, 15, 16, 82, 83, 84, 85, 86, 87, 88, 89, 90, 91, 92, 93] (by decide +kernel) (by decide +kernel)
set_option maxRecDepth 20000 in
theorem gX5_offer_X5_whyNotOffer : GoodIn wsX5_offer (wsV RX5 97 RX5 yX5_whyNotOffer wsX5_whyNotOffer) := goodIn_app (goodIn_of _ (by decide +kernel)) ggX5_offer_X5_whyNotOffer
set_option maxRecDepth 20000 in
theorem ggX5_offer_X5_record : GoodIn wsX5_offer wsX5_record := goodIn_r _ [20, 21, 22, 16, 23, 24, 4, 25, 82, 83, 84, 85, 86, 87, 88, 89, 90, 91, 92, 93] (by decide +kernel) (by decide +kernel)
set_option maxRecDepth 20000 in
theorem gX5_offer_X5_record : GoodIn wsX5_offer (wsV RX5 42 RX5 yX5_record wsX5_record) := goodIn_app (goodIn_of _ (by decide +kernel)) ggX5_offer_X5_record
set_option maxRecDepth 20000 in
theorem ggX5_offer_X5_offerNow : GoodIn wsX5_offer wsX5_offerNow := goodIn_r _ [29, 16, 30, 31, 32, 4, 33, 34, 35, 36, 37, 38, 39, 40, 41, 42, 43, 44, 45, 46, 47, 48, 49, 50, 51, 52, 53, 54, 55, 56, 57, 58, 59, 60, 61, 62, 63, 64, 65, 66, 67, 68, 69, 70, 71, 72, 73, 74, 75, 76, 77, 78, 79, 80, 81, 82, 83, 84, 85, 86, 87, 88, 89, 90, 91, 92, 93] (by decide +kernel) (by decide +kernel)
set_option maxRecDepth 20000 in
theorem gX5_offer_X5_offerNow : GoodIn wsX5_offer (wsV RX5 100 RX5 yX5_offerNow wsX5_offerNow) := goodIn_app (goodIn_of _ (by decide +kernel)) ggX5_offer_X5_offerNow
theorem dX5_offer_0 : decode cX5_offer 0 = .ok (.aload_n 0, 1) := by decide +kernel
theorem dX5_offer_1 : decode cX5_offer 1 = .ok (.iload_n 1, 1) := by decide +kernel
theorem dX5_offer_2 : decode cX5_offer 2 = .ok (.iload_n 2, 1) := by decide +kernel
theorem dX5_offer_3 : decode cX5_offer 3 = .ok (.iload_n 3, 1) := by decide +kernel
theorem dX5_offer_4 : decode cX5_offer 4 = .ok (.iload 4, 2) := by decide +kernel
theorem dX5_offer_6 : decode cX5_offer 6 = .ok (.invokevirtual 97, 3) := by decide +kernel
theorem dX5_offer_9 : decode cX5_offer 9 = .ok (.istore 5, 2) := by decide +kernel
theorem dX5_offer_11 : decode cX5_offer 11 = .ok (.iload 5, 2) := by decide +kernel
theorem dX5_offer_13 : decode cX5_offer 13 = .ok (.ifCond .ge 6, 3) := by decide +kernel
theorem dX5_offer_16 : decode cX5_offer 16 = .ok (.iload 5, 2) := by decide +kernel
theorem dX5_offer_18 : decode cX5_offer 18 = .ok (.ireturn, 1) := by decide +kernel
theorem dX5_offer_19 : decode cX5_offer 19 = .ok (.aload_n 0, 1) := by decide +kernel
theorem dX5_offer_20 : decode cX5_offer 20 = .ok (.invokevirtual 42, 3) := by decide +kernel
theorem dX5_offer_23 : decode cX5_offer 23 = .ok (.aload_n 0, 1) := by decide +kernel
theorem dX5_offer_24 : decode cX5_offer 24 = .ok (.iload_n 1, 1) := by decide +kernel
theorem dX5_offer_25 : decode cX5_offer 25 = .ok (.iload_n 2, 1) := by decide +kernel
theorem dX5_offer_26 : decode cX5_offer 26 = .ok (.iload_n 3, 1) := by decide +kernel
theorem dX5_offer_27 : decode cX5_offer 27 = .ok (.iload 4, 2) := by decide +kernel
theorem dX5_offer_29 : decode cX5_offer 29 = .ok (.invokevirtual 100, 3) := by decide +kernel
theorem dX5_offer_32 : decode cX5_offer 32 = .ok (.ireturn, 1) := by decide +kernel
set_option maxRecDepth 20000 in
theorem ggX5_pay_X5_isPupil : GoodIn wsX5_pay wsX5_isPupil := goodIn_r _ [4, 5, 6, 3, 7] (by decide +kernel) (by decide +kernel)
set_option maxRecDepth 20000 in
theorem gX5_pay_X5_isPupil : GoodIn wsX5_pay (va_wsS RX5 83 yX5_isPupil wsX5_isPupil) := goodIn_app (goodIn_of _ (by decide +kernel)) ggX5_pay_X5_isPupil
set_option maxRecDepth 20000 in
theorem ggX5_pay_X5_in : GoodIn wsX5_pay wsX5_in := goodIn_r _ [7] (by decide +kernel) (by decide +kernel)
set_option maxRecDepth 20000 in
theorem gX5_pay_X5_in : GoodIn wsX5_pay (va_wsS RX5 30 yX5_in wsX5_in) := goodIn_app (goodIn_of _ (by decide +kernel)) ggX5_pay_X5_in
set_option maxRecDepth 20000 in
theorem ggX5_pay_X5_of : GoodIn wsX5_pay wsX5_of := goodIn_r _ [11, 12, 26, 27, 28, 29, 30, 31, 32, 33, 34, 35, 36, 37] (by decide +kernel) (by decide +kernel)
set_option maxRecDepth 20000 in
theorem gX5_pay_X5_of : GoodIn wsX5_pay (wsV RX5 56 RX5 yX5_of wsX5_of) := goodIn_app (goodIn_of _ (by decide +kernel)) ggX5_pay_X5_of
set_option maxRecDepth 20000 in
theorem ggX5_pay_X5_record : GoodIn wsX5_pay wsX5_record := goodIn_r _ [16, 17, 18, 12, 19, 20, 3, 21, 26, 27, 28, 29, 30, 31, 32, 33, 34, 35, 36, 37] (by decide +kernel) (by decide +kernel)
set_option maxRecDepth 20000 in
theorem gX5_pay_X5_record : GoodIn wsX5_pay (wsV RX5 42 RX5 yX5_record wsX5_record) := goodIn_app (goodIn_of _ (by decide +kernel)) ggX5_pay_X5_record
set_option maxRecDepth 20000 in
theorem ggX5_pay_X5_lay : GoodIn wsX5_pay wsX5_lay := goodIn_r _ [25, 12, 26, 27, 28, 29, 30, 31, 32, 33, 34, 35, 36, 37] (by decide +kernel) (by decide +kernel)
set_option maxRecDepth 20000 in
theorem gX5_pay_X5_lay : GoodIn wsX5_pay (wsV RX5 26 RX5 yX5_lay wsX5_lay) := goodIn_app (goodIn_of _ (by decide +kernel)) ggX5_pay_X5_lay
theorem dX5_pay_0 : decode cX5_pay 0 = .ok (.iload_n 1, 1) := by decide +kernel
theorem dX5_pay_1 : decode cX5_pay 1 = .ok (.invokestatic 83, 3) := by decide +kernel
theorem dX5_pay_4 : decode cX5_pay 4 = .ok (.ifCond .ne 5, 3) := by decide +kernel
theorem dX5_pay_7 : decode cX5_pay 7 = .ok (.iconst (-1), 1) := by decide +kernel
theorem dX5_pay_8 : decode cX5_pay 8 = .ok (.ireturn, 1) := by decide +kernel
theorem dX5_pay_9 : decode cX5_pay 9 = .ok (.iload_n 2, 1) := by decide +kernel
theorem dX5_pay_10 : decode cX5_pay 10 = .ok (.iconst 1, 1) := by decide +kernel
theorem dX5_pay_11 : decode cX5_pay 11 = .ok (.sipush 9999, 3) := by decide +kernel
theorem dX5_pay_14 : decode cX5_pay 14 = .ok (.invokestatic 30, 3) := by decide +kernel
theorem dX5_pay_17 : decode cX5_pay 17 = .ok (.ifCond .ne 6, 3) := by decide +kernel
theorem dX5_pay_20 : decode cX5_pay 20 = .ok (.bipush (-2), 2) := by decide +kernel
theorem dX5_pay_22 : decode cX5_pay 22 = .ok (.ireturn, 1) := by decide +kernel
theorem dX5_pay_23 : decode cX5_pay 23 = .ok (.aload_n 0, 1) := by decide +kernel
theorem dX5_pay_24 : decode cX5_pay 24 = .ok (.iload_n 1, 1) := by decide +kernel
theorem dX5_pay_25 : decode cX5_pay 25 = .ok (.iconst 1, 1) := by decide +kernel
theorem dX5_pay_26 : decode cX5_pay 26 = .ok (.invokevirtual 56, 3) := by decide +kernel
theorem dX5_pay_29 : decode cX5_pay 29 = .ok (.iload_n 2, 1) := by decide +kernel
theorem dX5_pay_30 : decode cX5_pay 30 = .ok (.if_icmp .ge 6, 3) := by decide +kernel
theorem dX5_pay_33 : decode cX5_pay 33 = .ok (.bipush (-5), 2) := by decide +kernel
theorem dX5_pay_35 : decode cX5_pay 35 = .ok (.ireturn, 1) := by decide +kernel
theorem dX5_pay_36 : decode cX5_pay 36 = .ok (.aload_n 0, 1) := by decide +kernel
theorem dX5_pay_37 : decode cX5_pay 37 = .ok (.invokevirtual 42, 3) := by decide +kernel
theorem dX5_pay_40 : decode cX5_pay 40 = .ok (.aload_n 0, 1) := by decide +kernel
theorem dX5_pay_41 : decode cX5_pay 41 = .ok (.iload_n 1, 1) := by decide +kernel
theorem dX5_pay_42 : decode cX5_pay 42 = .ok (.iconst 1, 1) := by decide +kernel
theorem dX5_pay_43 : decode cX5_pay 43 = .ok (.aload_n 0, 1) := by decide +kernel
theorem dX5_pay_44 : decode cX5_pay 44 = .ok (.iload_n 1, 1) := by decide +kernel
theorem dX5_pay_45 : decode cX5_pay 45 = .ok (.iconst 1, 1) := by decide +kernel
theorem dX5_pay_46 : decode cX5_pay 46 = .ok (.invokevirtual 56, 3) := by decide +kernel
theorem dX5_pay_49 : decode cX5_pay 49 = .ok (.iload_n 2, 1) := by decide +kernel
theorem dX5_pay_50 : decode cX5_pay 50 = .ok (.isub, 1) := by decide +kernel
theorem dX5_pay_51 : decode cX5_pay 51 = .ok (.invokevirtual 26, 3) := by decide +kernel
theorem dX5_pay_54 : decode cX5_pay 54 = .ok (.aload_n 0, 1) := by decide +kernel
theorem dX5_pay_55 : decode cX5_pay 55 = .ok (.iload_n 1, 1) := by decide +kernel
theorem dX5_pay_56 : decode cX5_pay 56 = .ok (.iconst 5, 1) := by decide +kernel
theorem dX5_pay_57 : decode cX5_pay 57 = .ok (.aload_n 0, 1) := by decide +kernel
theorem dX5_pay_58 : decode cX5_pay 58 = .ok (.iload_n 1, 1) := by decide +kernel
theorem dX5_pay_59 : decode cX5_pay 59 = .ok (.iconst 5, 1) := by decide +kernel
theorem dX5_pay_60 : decode cX5_pay 60 = .ok (.invokevirtual 56, 3) := by decide +kernel
theorem dX5_pay_63 : decode cX5_pay 63 = .ok (.iload_n 2, 1) := by decide +kernel
theorem dX5_pay_64 : decode cX5_pay 64 = .ok (.iadd, 1) := by decide +kernel
theorem dX5_pay_65 : decode cX5_pay 65 = .ok (.invokevirtual 26, 3) := by decide +kernel
theorem dX5_pay_68 : decode cX5_pay 68 = .ok (.aload_n 0, 1) := by decide +kernel
theorem dX5_pay_69 : decode cX5_pay 69 = .ok (.iload_n 1, 1) := by decide +kernel
theorem dX5_pay_70 : decode cX5_pay 70 = .ok (.iconst 1, 1) := by decide +kernel
theorem dX5_pay_71 : decode cX5_pay 71 = .ok (.invokevirtual 56, 3) := by decide +kernel
theorem dX5_pay_74 : decode cX5_pay 74 = .ok (.ireturn, 1) := by decide +kernel
set_option maxRecDepth 20000 in
theorem ggX5_endTerm_X5_record : GoodIn wsX5_endTerm wsX5_record := goodIn_r _ [6, 7, 8, 1, 9, 10, 5, 11, 20, 21, 22, 23, 24, 25, 26, 27, 28, 29, 30, 31] (by decide +kernel) (by decide +kernel)
set_option maxRecDepth 20000 in
theorem gX5_endTerm_X5_record : GoodIn wsX5_endTerm (wsV RX5 42 RX5 yX5_record wsX5_record) := goodIn_app (goodIn_of _ (by decide +kernel)) ggX5_endTerm_X5_record
set_option maxRecDepth 20000 in
theorem ggX5_endTerm_X5_lay : GoodIn wsX5_endTerm wsX5_lay := goodIn_r _ [15, 1, 20, 21, 22, 23, 24, 25, 26, 27, 28, 29, 30, 31] (by decide +kernel) (by decide +kernel)
set_option maxRecDepth 20000 in
theorem gX5_endTerm_X5_lay : GoodIn wsX5_endTerm (wsV RX5 26 RX5 yX5_lay wsX5_lay) := goodIn_app (goodIn_of _ (by decide +kernel)) ggX5_endTerm_X5_lay
set_option maxRecDepth 20000 in
theorem ggX5_endTerm_X5_of : GoodIn wsX5_endTerm wsX5_of := goodIn_r _ [19, 1, 20, 21, 22, 23, 24, 25, 26, 27, 28, 29, 30, 31] (by decide +kernel) (by decide +kernel)
set_option maxRecDepth 20000 in
theorem gX5_endTerm_X5_of : GoodIn wsX5_endTerm (wsV RX5 56 RX5 yX5_of wsX5_of) := goodIn_app (goodIn_of _ (by decide +kernel)) ggX5_endTerm_X5_of
theorem dX5_endTerm_0 : decode cX5_endTerm 0 = .ok (.aload_n 0, 1) := by decide +kernel
theorem dX5_endTerm_1 : decode cX5_endTerm 1 = .ok (.invokevirtual 42, 3) := by decide +kernel
theorem dX5_endTerm_4 : decode cX5_endTerm 4 = .ok (.aload_n 0, 1) := by decide +kernel
theorem dX5_endTerm_5 : decode cX5_endTerm 5 = .ok (.getfield 7, 3) := by decide +kernel
theorem dX5_endTerm_8 : decode cX5_endTerm 8 = .ok (.bipush 12, 2) := by decide +kernel
theorem dX5_endTerm_10 : decode cX5_endTerm 10 = .ok (.iaload, 1) := by decide +kernel
theorem dX5_endTerm_11 : decode cX5_endTerm 11 = .ok (.istore_n 1, 1) := by decide +kernel
theorem dX5_endTerm_12 : decode cX5_endTerm 12 = .ok (.aload_n 0, 1) := by decide +kernel
theorem dX5_endTerm_13 : decode cX5_endTerm 13 = .ok (.getfield 7, 3) := by decide +kernel
theorem dX5_endTerm_16 : decode cX5_endTerm 16 = .ok (.bipush 12, 2) := by decide +kernel
theorem dX5_endTerm_18 : decode cX5_endTerm 18 = .ok (.iconst 0, 1) := by decide +kernel
theorem dX5_endTerm_19 : decode cX5_endTerm 19 = .ok (.iastore, 1) := by decide +kernel
theorem dX5_endTerm_20 : decode cX5_endTerm 20 = .ok (.aload_n 0, 1) := by decide +kernel
theorem dX5_endTerm_21 : decode cX5_endTerm 21 = .ok (.getfield 7, 3) := by decide +kernel
theorem dX5_endTerm_24 : decode cX5_endTerm 24 = .ok (.bipush 11, 2) := by decide +kernel
theorem dX5_endTerm_26 : decode cX5_endTerm 26 = .ok (.dup2, 1) := by decide +kernel
theorem dX5_endTerm_27 : decode cX5_endTerm 27 = .ok (.iaload, 1) := by decide +kernel
theorem dX5_endTerm_28 : decode cX5_endTerm 28 = .ok (.iconst 1, 1) := by decide +kernel
theorem dX5_endTerm_29 : decode cX5_endTerm 29 = .ok (.iadd, 1) := by decide +kernel
theorem dX5_endTerm_30 : decode cX5_endTerm 30 = .ok (.iastore, 1) := by decide +kernel
theorem dX5_endTerm_31 : decode cX5_endTerm 31 = .ok (.iconst 0, 1) := by decide +kernel
theorem dX5_endTerm_32 : decode cX5_endTerm 32 = .ok (.istore_n 2, 1) := by decide +kernel
theorem dX5_endTerm_33 : decode cX5_endTerm 33 = .ok (.iload_n 2, 1) := by decide +kernel
theorem dX5_endTerm_34 : decode cX5_endTerm 34 = .ok (.bipush 120, 2) := by decide +kernel
theorem dX5_endTerm_36 : decode cX5_endTerm 36 = .ok (.if_icmp .ge 19, 3) := by decide +kernel
theorem dX5_endTerm_39 : decode cX5_endTerm 39 = .ok (.aload_n 0, 1) := by decide +kernel
theorem dX5_endTerm_40 : decode cX5_endTerm 40 = .ok (.getfield 7, 3) := by decide +kernel
theorem dX5_endTerm_43 : decode cX5_endTerm 43 = .ok (.bipush 114, 2) := by decide +kernel
theorem dX5_endTerm_45 : decode cX5_endTerm 45 = .ok (.iload_n 2, 1) := by decide +kernel
theorem dX5_endTerm_46 : decode cX5_endTerm 46 = .ok (.iadd, 1) := by decide +kernel
theorem dX5_endTerm_47 : decode cX5_endTerm 47 = .ok (.iconst 0, 1) := by decide +kernel
theorem dX5_endTerm_48 : decode cX5_endTerm 48 = .ok (.iastore, 1) := by decide +kernel
theorem dX5_endTerm_49 : decode cX5_endTerm 49 = .ok (.iinc 2 1, 3) := by decide +kernel
theorem dX5_endTerm_52 : decode cX5_endTerm 52 = .ok (.goto (-19), 3) := by decide +kernel
theorem dX5_endTerm_55 : decode cX5_endTerm 55 = .ok (.iconst 0, 1) := by decide +kernel
theorem dX5_endTerm_56 : decode cX5_endTerm 56 = .ok (.istore_n 2, 1) := by decide +kernel
theorem dX5_endTerm_57 : decode cX5_endTerm 57 = .ok (.iload_n 2, 1) := by decide +kernel
theorem dX5_endTerm_58 : decode cX5_endTerm 58 = .ok (.iconst 5, 1) := by decide +kernel
theorem dX5_endTerm_59 : decode cX5_endTerm 59 = .ok (.if_icmp .ge 29, 3) := by decide +kernel
theorem dX5_endTerm_62 : decode cX5_endTerm 62 = .ok (.aload_n 0, 1) := by decide +kernel
theorem dX5_endTerm_63 : decode cX5_endTerm 63 = .ok (.getfield 7, 3) := by decide +kernel
theorem dX5_endTerm_66 : decode cX5_endTerm 66 = .ok (.bipush 13, 2) := by decide +kernel
theorem dX5_endTerm_68 : decode cX5_endTerm 68 = .ok (.iload_n 2, 1) := by decide +kernel
theorem dX5_endTerm_69 : decode cX5_endTerm 69 = .ok (.iadd, 1) := by decide +kernel
theorem dX5_endTerm_70 : decode cX5_endTerm 70 = .ok (.aload_n 0, 1) := by decide +kernel
theorem dX5_endTerm_71 : decode cX5_endTerm 71 = .ok (.getfield 7, 3) := by decide +kernel
theorem dX5_endTerm_74 : decode cX5_endTerm 74 = .ok (.bipush 13, 2) := by decide +kernel
theorem dX5_endTerm_76 : decode cX5_endTerm 76 = .ok (.iload_n 2, 1) := by decide +kernel
theorem dX5_endTerm_77 : decode cX5_endTerm 77 = .ok (.iadd, 1) := by decide +kernel
theorem dX5_endTerm_78 : decode cX5_endTerm 78 = .ok (.iaload, 1) := by decide +kernel
theorem dX5_endTerm_79 : decode cX5_endTerm 79 = .ok (.iconst 2, 1) := by decide +kernel
theorem dX5_endTerm_80 : decode cX5_endTerm 80 = .ok (.idiv, 1) := by decide +kernel
theorem dX5_endTerm_81 : decode cX5_endTerm 81 = .ok (.iastore, 1) := by decide +kernel
theorem dX5_endTerm_82 : decode cX5_endTerm 82 = .ok (.iinc 2 1, 3) := by decide +kernel
theorem dX5_endTerm_85 : decode cX5_endTerm 85 = .ok (.goto (-28), 3) := by decide +kernel
theorem dX5_endTerm_88 : decode cX5_endTerm 88 = .ok (.iconst 0, 1) := by decide +kernel
theorem dX5_endTerm_89 : decode cX5_endTerm 89 = .ok (.istore_n 2, 1) := by decide +kernel
theorem dX5_endTerm_90 : decode cX5_endTerm 90 = .ok (.iload_n 2, 1) := by decide +kernel
theorem dX5_endTerm_91 : decode cX5_endTerm 91 = .ok (.bipush 10, 2) := by decide +kernel
theorem dX5_endTerm_93 : decode cX5_endTerm 93 = .ok (.if_icmp .ge 47, 3) := by decide +kernel
theorem dX5_endTerm_96 : decode cX5_endTerm 96 = .ok (.aload_n 0, 1) := by decide +kernel
theorem dX5_endTerm_97 : decode cX5_endTerm 97 = .ok (.iload_n 2, 1) := by decide +kernel
theorem dX5_endTerm_98 : decode cX5_endTerm 98 = .ok (.iconst 4, 1) := by decide +kernel
theorem dX5_endTerm_99 : decode cX5_endTerm 99 = .ok (.bipush (-6), 2) := by decide +kernel
theorem dX5_endTerm_101 : decode cX5_endTerm 101 = .ok (.invokevirtual 26, 3) := by decide +kernel
theorem dX5_endTerm_104 : decode cX5_endTerm 104 = .ok (.aload_n 0, 1) := by decide +kernel
theorem dX5_endTerm_105 : decode cX5_endTerm 105 = .ok (.iload_n 2, 1) := by decide +kernel
theorem dX5_endTerm_106 : decode cX5_endTerm 106 = .ok (.iconst 0, 1) := by decide +kernel
theorem dX5_endTerm_107 : decode cX5_endTerm 107 = .ok (.aload_n 0, 1) := by decide +kernel
theorem dX5_endTerm_108 : decode cX5_endTerm 108 = .ok (.iload_n 2, 1) := by decide +kernel
theorem dX5_endTerm_109 : decode cX5_endTerm 109 = .ok (.iconst 0, 1) := by decide +kernel
theorem dX5_endTerm_110 : decode cX5_endTerm 110 = .ok (.invokevirtual 56, 3) := by decide +kernel
theorem dX5_endTerm_113 : decode cX5_endTerm 113 = .ok (.bipush 7, 2) := by decide +kernel
theorem dX5_endTerm_115 : decode cX5_endTerm 115 = .ok (.if_icmp .le 8, 3) := by decide +kernel
theorem dX5_endTerm_118 : decode cX5_endTerm 118 = .ok (.bipush 9, 2) := by decide +kernel
theorem dX5_endTerm_120 : decode cX5_endTerm 120 = .ok (.goto 11, 3) := by decide +kernel
theorem dX5_endTerm_123 : decode cX5_endTerm 123 = .ok (.aload_n 0, 1) := by decide +kernel
theorem dX5_endTerm_124 : decode cX5_endTerm 124 = .ok (.iload_n 2, 1) := by decide +kernel
theorem dX5_endTerm_125 : decode cX5_endTerm 125 = .ok (.iconst 0, 1) := by decide +kernel
theorem dX5_endTerm_126 : decode cX5_endTerm 126 = .ok (.invokevirtual 56, 3) := by decide +kernel
theorem dX5_endTerm_129 : decode cX5_endTerm 129 = .ok (.iconst 2, 1) := by decide +kernel
theorem dX5_endTerm_130 : decode cX5_endTerm 130 = .ok (.iadd, 1) := by decide +kernel
theorem dX5_endTerm_131 : decode cX5_endTerm 131 = .ok (.invokevirtual 26, 3) := by decide +kernel
theorem dX5_endTerm_134 : decode cX5_endTerm 134 = .ok (.iinc 2 1, 3) := by decide +kernel
theorem dX5_endTerm_137 : decode cX5_endTerm 137 = .ok (.goto (-47), 3) := by decide +kernel
theorem dX5_endTerm_140 : decode cX5_endTerm 140 = .ok (.iload_n 1, 1) := by decide +kernel
theorem dX5_endTerm_141 : decode cX5_endTerm 141 = .ok (.ireturn, 1) := by decide +kernel
set_option maxRecDepth 20000 in
theorem ggX5_put_X5_in : GoodIn wsX5_put wsX5_in := goodIn_r _ [7] (by decide +kernel) (by decide +kernel)
set_option maxRecDepth 20000 in
theorem gX5_put_X5_in : GoodIn wsX5_put (va_wsS RX5 30 yX5_in wsX5_in) := goodIn_app (goodIn_of _ (by decide +kernel)) ggX5_put_X5_in
theorem dX5_put_0 : decode cX5_put 0 = .ok (.lload_n 1, 1) := by decide +kernel
theorem dX5_put_1 : decode cX5_put 1 = .ok (.lstore_n 3, 1) := by decide +kernel
theorem dX5_put_2 : decode cX5_put 2 = .ok (.iconst 0, 1) := by decide +kernel
theorem dX5_put_3 : decode cX5_put 3 = .ok (.istore 5, 2) := by decide +kernel
theorem dX5_put_5 : decode cX5_put 5 = .ok (.lload_n 3, 1) := by decide +kernel
theorem dX5_put_6 : decode cX5_put 6 = .ok (.lconst 0, 1) := by decide +kernel
theorem dX5_put_7 : decode cX5_put 7 = .ok (.lcmp, 1) := by decide +kernel
theorem dX5_put_8 : decode cX5_put 8 = .ok (.ifCond .eq 40, 3) := by decide +kernel
theorem dX5_put_11 : decode cX5_put 11 = .ok (.iload 5, 2) := by decide +kernel
theorem dX5_put_13 : decode cX5_put 13 = .ok (.bipush 8, 2) := by decide +kernel
theorem dX5_put_15 : decode cX5_put 15 = .ok (.if_icmp .ge 33, 3) := by decide +kernel
theorem dX5_put_18 : decode cX5_put 18 = .ok (.lload_n 3, 1) := by decide +kernel
theorem dX5_put_19 : decode cX5_put 19 = .ok (.ldc2_w 103, 3) := by decide +kernel
theorem dX5_put_22 : decode cX5_put 22 = .ok (.land, 1) := by decide +kernel
theorem dX5_put_23 : decode cX5_put 23 = .ok (.l2i, 1) := by decide +kernel
theorem dX5_put_24 : decode cX5_put 24 = .ok (.bipush 33, 2) := by decide +kernel
theorem dX5_put_26 : decode cX5_put 26 = .ok (.bipush 126, 2) := by decide +kernel
theorem dX5_put_28 : decode cX5_put 28 = .ok (.invokestatic 30, 3) := by decide +kernel
theorem dX5_put_31 : decode cX5_put 31 = .ok (.ifCond .ne 6, 3) := by decide +kernel
theorem dX5_put_34 : decode cX5_put 34 = .ok (.bipush (-2), 2) := by decide +kernel
theorem dX5_put_36 : decode cX5_put 36 = .ok (.ireturn, 1) := by decide +kernel
theorem dX5_put_37 : decode cX5_put 37 = .ok (.lload_n 3, 1) := by decide +kernel
theorem dX5_put_38 : decode cX5_put 38 = .ok (.bipush 8, 2) := by decide +kernel
theorem dX5_put_40 : decode cX5_put 40 = .ok (.lushr, 1) := by decide +kernel
theorem dX5_put_41 : decode cX5_put 41 = .ok (.lstore_n 3, 1) := by decide +kernel
theorem dX5_put_42 : decode cX5_put 42 = .ok (.iinc 5 1, 3) := by decide +kernel
theorem dX5_put_45 : decode cX5_put 45 = .ok (.goto (-40), 3) := by decide +kernel
theorem dX5_put_48 : decode cX5_put 48 = .ok (.iload 5, 2) := by decide +kernel
theorem dX5_put_50 : decode cX5_put 50 = .ok (.ifCond .ne 6, 3) := by decide +kernel
theorem dX5_put_53 : decode cX5_put 53 = .ok (.bipush (-2), 2) := by decide +kernel
theorem dX5_put_55 : decode cX5_put 55 = .ok (.ireturn, 1) := by decide +kernel
theorem dX5_put_56 : decode cX5_put 56 = .ok (.aload_n 0, 1) := by decide +kernel
theorem dX5_put_57 : decode cX5_put 57 = .ok (.getfield 105, 3) := by decide +kernel
theorem dX5_put_60 : decode cX5_put 60 = .ok (.iload 5, 2) := by decide +kernel
theorem dX5_put_62 : decode cX5_put 62 = .ok (.iadd, 1) := by decide +kernel
theorem dX5_put_63 : decode cX5_put 63 = .ok (.bipush 60, 2) := by decide +kernel
theorem dX5_put_65 : decode cX5_put 65 = .ok (.if_icmp .le 6, 3) := by decide +kernel
theorem dX5_put_68 : decode cX5_put 68 = .ok (.bipush (-4), 2) := by decide +kernel
theorem dX5_put_70 : decode cX5_put 70 = .ok (.ireturn, 1) := by decide +kernel
theorem dX5_put_71 : decode cX5_put 71 = .ok (.iload 5, 2) := by decide +kernel
theorem dX5_put_73 : decode cX5_put 73 = .ok (.iconst 1, 1) := by decide +kernel
theorem dX5_put_74 : decode cX5_put 74 = .ok (.isub, 1) := by decide +kernel
theorem dX5_put_75 : decode cX5_put 75 = .ok (.istore 6, 2) := by decide +kernel
theorem dX5_put_77 : decode cX5_put 77 = .ok (.iload 6, 2) := by decide +kernel
theorem dX5_put_79 : decode cX5_put 79 = .ok (.ifCond .lt 40, 3) := by decide +kernel
theorem dX5_put_82 : decode cX5_put 82 = .ok (.aload_n 0, 1) := by decide +kernel
theorem dX5_put_83 : decode cX5_put 83 = .ok (.getfield 23, 3) := by decide +kernel
theorem dX5_put_86 : decode cX5_put 86 = .ok (.aload_n 0, 1) := by decide +kernel
theorem dX5_put_87 : decode cX5_put 87 = .ok (.getfield 105, 3) := by decide +kernel
theorem dX5_put_90 : decode cX5_put 90 = .ok (.lload_n 1, 1) := by decide +kernel
theorem dX5_put_91 : decode cX5_put 91 = .ok (.bipush 8, 2) := by decide +kernel
theorem dX5_put_93 : decode cX5_put 93 = .ok (.iload 6, 2) := by decide +kernel
theorem dX5_put_95 : decode cX5_put 95 = .ok (.imul, 1) := by decide +kernel
theorem dX5_put_96 : decode cX5_put 96 = .ok (.lushr, 1) := by decide +kernel
theorem dX5_put_97 : decode cX5_put 97 = .ok (.ldc2_w 103, 3) := by decide +kernel
theorem dX5_put_100 : decode cX5_put 100 = .ok (.land, 1) := by decide +kernel
theorem dX5_put_101 : decode cX5_put 101 = .ok (.l2i, 1) := by decide +kernel
theorem dX5_put_102 : decode cX5_put 102 = .ok (.iastore, 1) := by decide +kernel
theorem dX5_put_103 : decode cX5_put 103 = .ok (.aload_n 0, 1) := by decide +kernel
theorem dX5_put_104 : decode cX5_put 104 = .ok (.dup, 1) := by decide +kernel
theorem dX5_put_105 : decode cX5_put 105 = .ok (.getfield 105, 3) := by decide +kernel
theorem dX5_put_108 : decode cX5_put 108 = .ok (.iconst 1, 1) := by decide +kernel
theorem dX5_put_109 : decode cX5_put 109 = .ok (.iadd, 1) := by decide +kernel
theorem dX5_put_110 : decode cX5_put 110 = .ok (.putfield 105, 3) := by decide +kernel
theorem dX5_put_113 : decode cX5_put 113 = .ok (.iinc 6 (-1), 3) := by decide +kernel
theorem dX5_put_116 : decode cX5_put 116 = .ok (.goto (-39), 3) := by decide +kernel
theorem dX5_put_119 : decode cX5_put 119 = .ok (.aload_n 0, 1) := by decide +kernel
theorem dX5_put_120 : decode cX5_put 120 = .ok (.getfield 105, 3) := by decide +kernel
theorem dX5_put_123 : decode cX5_put 123 = .ok (.ireturn, 1) := by decide +kernel
theorem dX5_wipe_0 : decode cX5_wipe 0 = .ok (.aload_n 0, 1) := by decide +kernel
theorem dX5_wipe_1 : decode cX5_wipe 1 = .ok (.getfield 105, 3) := by decide +kernel
theorem dX5_wipe_4 : decode cX5_wipe 4 = .ok (.istore_n 1, 1) := by decide +kernel
theorem dX5_wipe_5 : decode cX5_wipe 5 = .ok (.aload_n 0, 1) := by decide +kernel
theorem dX5_wipe_6 : decode cX5_wipe 6 = .ok (.iconst 0, 1) := by decide +kernel
theorem dX5_wipe_7 : decode cX5_wipe 7 = .ok (.putfield 105, 3) := by decide +kernel
theorem dX5_wipe_10 : decode cX5_wipe 10 = .ok (.iload_n 1, 1) := by decide +kernel
theorem dX5_wipe_11 : decode cX5_wipe 11 = .ok (.ireturn, 1) := by decide +kernel
set_option maxRecDepth 20000 in
theorem ggX5_sees_X5_in : GoodIn wsX5_sees wsX5_in := goodIn_r _ [7] (by decide +kernel) (by decide +kernel)
set_option maxRecDepth 20000 in
theorem gX5_sees_X5_in : GoodIn wsX5_sees (va_wsS RX5 30 yX5_in wsX5_in) := goodIn_app (goodIn_of _ (by decide +kernel)) ggX5_sees_X5_in
theorem dX5_sees_0 : decode cX5_sees 0 = .ok (.aload_n 0, 1) := by decide +kernel
theorem dX5_sees_1 : decode cX5_sees 1 = .ok (.getfield 108, 3) := by decide +kernel
theorem dX5_sees_4 : decode cX5_sees 4 = .ok (.aload_n 0, 1) := by decide +kernel
theorem dX5_sees_5 : decode cX5_sees 5 = .ok (.getfield 105, 3) := by decide +kernel
theorem dX5_sees_8 : decode cX5_sees 8 = .ok (.if_icmp .ge 24, 3) := by decide +kernel
theorem dX5_sees_11 : decode cX5_sees 11 = .ok (.aload_n 0, 1) := by decide +kernel
theorem dX5_sees_12 : decode cX5_sees 12 = .ok (.getfield 23, 3) := by decide +kernel
theorem dX5_sees_15 : decode cX5_sees 15 = .ok (.aload_n 0, 1) := by decide +kernel
theorem dX5_sees_16 : decode cX5_sees 16 = .ok (.getfield 108, 3) := by decide +kernel
theorem dX5_sees_19 : decode cX5_sees 19 = .ok (.iaload, 1) := by decide +kernel
theorem dX5_sees_20 : decode cX5_sees 20 = .ok (.iload_n 1, 1) := by decide +kernel
theorem dX5_sees_21 : decode cX5_sees 21 = .ok (.iload_n 2, 1) := by decide +kernel
theorem dX5_sees_22 : decode cX5_sees 22 = .ok (.invokestatic 30, 3) := by decide +kernel
theorem dX5_sees_25 : decode cX5_sees 25 = .ok (.ifCond .eq 7, 3) := by decide +kernel
theorem dX5_sees_28 : decode cX5_sees 28 = .ok (.iconst 1, 1) := by decide +kernel
theorem dX5_sees_29 : decode cX5_sees 29 = .ok (.goto 4, 3) := by decide +kernel
theorem dX5_sees_32 : decode cX5_sees 32 = .ok (.iconst 0, 1) := by decide +kernel
theorem dX5_sees_33 : decode cX5_sees 33 = .ok (.ireturn, 1) := by decide +kernel
set_option maxRecDepth 20000 in
theorem ggX5_takes_X5_sees : GoodIn wsX5_takes wsX5_sees := goodIn_r _ [6, 1, 7, 8, 9, 10, 5, 11, 12, 13, 14, 15, 16, 17, 18, 19, 20, 21, 22, 23] (by decide +kernel) (by decide +kernel)
set_option maxRecDepth 20000 in
theorem gX5_takes_X5_sees : GoodIn wsX5_takes (wsV RX5 111 RX5 yX5_sees wsX5_sees) := goodIn_app (goodIn_of _ (by decide +kernel)) ggX5_takes_X5_sees
theorem dX5_takes_0 : decode cX5_takes 0 = .ok (.aload_n 0, 1) := by decide +kernel
theorem dX5_takes_1 : decode cX5_takes 1 = .ok (.iload_n 1, 1) := by decide +kernel
theorem dX5_takes_2 : decode cX5_takes 2 = .ok (.iload_n 1, 1) := by decide +kernel
theorem dX5_takes_3 : decode cX5_takes 3 = .ok (.invokevirtual 111, 3) := by decide +kernel
theorem dX5_takes_6 : decode cX5_takes 6 = .ok (.istore_n 2, 1) := by decide +kernel
theorem dX5_takes_7 : decode cX5_takes 7 = .ok (.aload_n 0, 1) := by decide +kernel
theorem dX5_takes_8 : decode cX5_takes 8 = .ok (.dup, 1) := by decide +kernel
theorem dX5_takes_9 : decode cX5_takes 9 = .ok (.getfield 108, 3) := by decide +kernel
theorem dX5_takes_12 : decode cX5_takes 12 = .ok (.iload_n 2, 1) := by decide +kernel
theorem dX5_takes_13 : decode cX5_takes 13 = .ok (.ifCond .eq 7, 3) := by decide +kernel
theorem dX5_takes_16 : decode cX5_takes 16 = .ok (.iconst 1, 1) := by decide +kernel
theorem dX5_takes_17 : decode cX5_takes 17 = .ok (.goto 4, 3) := by decide +kernel
theorem dX5_takes_20 : decode cX5_takes 20 = .ok (.iconst 0, 1) := by decide +kernel
theorem dX5_takes_21 : decode cX5_takes 21 = .ok (.iadd, 1) := by decide +kernel
theorem dX5_takes_22 : decode cX5_takes 22 = .ok (.putfield 108, 3) := by decide +kernel
theorem dX5_takes_25 : decode cX5_takes 25 = .ok (.iload_n 2, 1) := by decide +kernel
theorem dX5_takes_26 : decode cX5_takes 26 = .ok (.ireturn, 1) := by decide +kernel
set_option maxRecDepth 20000 in
theorem ggX5_takesOne_X5_sees : GoodIn wsX5_takesOne wsX5_sees := goodIn_r _ [7, 1, 8, 2, 9, 10, 6, 11, 12, 13, 14, 15, 16, 17, 18, 19, 20, 21, 22, 23] (by decide +kernel) (by decide +kernel)
set_option maxRecDepth 20000 in
theorem gX5_takesOne_X5_sees : GoodIn wsX5_takesOne (wsV RX5 111 RX5 yX5_sees wsX5_sees) := goodIn_app (goodIn_of _ (by decide +kernel)) ggX5_takesOne_X5_sees
theorem dX5_takesOne_0 : decode cX5_takesOne 0 = .ok (.aload_n 0, 1) := by decide +kernel
theorem dX5_takesOne_1 : decode cX5_takesOne 1 = .ok (.iload_n 1, 1) := by decide +kernel
theorem dX5_takesOne_2 : decode cX5_takesOne 2 = .ok (.iload_n 2, 1) := by decide +kernel
theorem dX5_takesOne_3 : decode cX5_takesOne 3 = .ok (.invokevirtual 111, 3) := by decide +kernel
theorem dX5_takesOne_6 : decode cX5_takesOne 6 = .ok (.ifCond .ne 6, 3) := by decide +kernel
theorem dX5_takesOne_9 : decode cX5_takesOne 9 = .ok (.bipush (-6), 2) := by decide +kernel
theorem dX5_takesOne_11 : decode cX5_takesOne 11 = .ok (.ireturn, 1) := by decide +kernel
theorem dX5_takesOne_12 : decode cX5_takesOne 12 = .ok (.aload_n 0, 1) := by decide +kernel
theorem dX5_takesOne_13 : decode cX5_takesOne 13 = .ok (.dup, 1) := by decide +kernel
theorem dX5_takesOne_14 : decode cX5_takesOne 14 = .ok (.getfield 108, 3) := by decide +kernel
theorem dX5_takesOne_17 : decode cX5_takesOne 17 = .ok (.iconst 1, 1) := by decide +kernel
theorem dX5_takesOne_18 : decode cX5_takesOne 18 = .ok (.iadd, 1) := by decide +kernel
theorem dX5_takesOne_19 : decode cX5_takesOne 19 = .ok (.putfield 108, 3) := by decide +kernel
theorem dX5_takesOne_22 : decode cX5_takesOne 22 = .ok (.aload_n 0, 1) := by decide +kernel
theorem dX5_takesOne_23 : decode cX5_takesOne 23 = .ok (.getfield 23, 3) := by decide +kernel
theorem dX5_takesOne_26 : decode cX5_takesOne 26 = .ok (.aload_n 0, 1) := by decide +kernel
theorem dX5_takesOne_27 : decode cX5_takesOne 27 = .ok (.getfield 108, 3) := by decide +kernel
theorem dX5_takesOne_30 : decode cX5_takesOne 30 = .ok (.iconst 1, 1) := by decide +kernel
theorem dX5_takesOne_31 : decode cX5_takesOne 31 = .ok (.isub, 1) := by decide +kernel
theorem dX5_takesOne_32 : decode cX5_takesOne 32 = .ok (.iaload, 1) := by decide +kernel
theorem dX5_takesOne_33 : decode cX5_takesOne 33 = .ok (.iload_n 1, 1) := by decide +kernel
theorem dX5_takesOne_34 : decode cX5_takesOne 34 = .ok (.isub, 1) := by decide +kernel
theorem dX5_takesOne_35 : decode cX5_takesOne 35 = .ok (.ireturn, 1) := by decide +kernel
set_option maxRecDepth 20000 in
theorem ggX5_readMinutes_X5_takesOne : GoodIn wsX5_readMinutes wsX5_takesOne := goodIn_r _ [6, 7, 8, 9, 10, 11, 5, 12, 13, 14, 15, 16, 17, 18, 19, 20, 21, 22, 23, 24, 25, 26, 27, 28] (by decide +kernel) (by decide +kernel)
set_option maxRecDepth 20000 in
theorem gX5_readMinutes_X5_takesOne : GoodIn wsX5_readMinutes (wsV RX5 114 RX5 yX5_takesOne wsX5_takesOne) := goodIn_app (goodIn_of _ (by decide +kernel)) ggX5_readMinutes_X5_takesOne
set_option maxRecDepth 20000 in
theorem ggX5_readMinutes_X5_sees : GoodIn wsX5_readMinutes wsX5_sees := goodIn_r _ [12, 7, 13, 8, 14, 15, 5, 16, 17, 18, 19, 20, 21, 22, 23, 24, 25, 26, 27, 28] (by decide +kernel) (by decide +kernel)
set_option maxRecDepth 20000 in
theorem gX5_readMinutes_X5_sees : GoodIn wsX5_readMinutes (wsV RX5 111 RX5 yX5_sees wsX5_sees) := goodIn_app (goodIn_of _ (by decide +kernel)) ggX5_readMinutes_X5_sees
theorem dX5_readMinutes_0 : decode cX5_readMinutes 0 = .ok (.aload_n 0, 1) := by decide +kernel
theorem dX5_readMinutes_1 : decode cX5_readMinutes 1 = .ok (.aload_n 0, 1) := by decide +kernel
theorem dX5_readMinutes_2 : decode cX5_readMinutes 2 = .ok (.bipush 49, 2) := by decide +kernel
theorem dX5_readMinutes_4 : decode cX5_readMinutes 4 = .ok (.bipush 57, 2) := by decide +kernel
theorem dX5_readMinutes_6 : decode cX5_readMinutes 6 = .ok (.invokevirtual 114, 3) := by decide +kernel
theorem dX5_readMinutes_9 : decode cX5_readMinutes 9 = .ok (.iconst 1, 1) := by decide +kernel
theorem dX5_readMinutes_10 : decode cX5_readMinutes 10 = .ok (.iadd, 1) := by decide +kernel
theorem dX5_readMinutes_11 : decode cX5_readMinutes 11 = .ok (.putfield 117, 3) := by decide +kernel
theorem dX5_readMinutes_14 : decode cX5_readMinutes 14 = .ok (.aload_n 0, 1) := by decide +kernel
theorem dX5_readMinutes_15 : decode cX5_readMinutes 15 = .ok (.getfield 117, 3) := by decide +kernel
theorem dX5_readMinutes_18 : decode cX5_readMinutes 18 = .ok (.iconst 1, 1) := by decide +kernel
theorem dX5_readMinutes_19 : decode cX5_readMinutes 19 = .ok (.if_icmp .ge 5, 3) := by decide +kernel
theorem dX5_readMinutes_22 : decode cX5_readMinutes 22 = .ok (.iconst 0, 1) := by decide +kernel
theorem dX5_readMinutes_23 : decode cX5_readMinutes 23 = .ok (.ireturn, 1) := by decide +kernel
theorem dX5_readMinutes_24 : decode cX5_readMinutes 24 = .ok (.aload_n 0, 1) := by decide +kernel
theorem dX5_readMinutes_25 : decode cX5_readMinutes 25 = .ok (.bipush 48, 2) := by decide +kernel
theorem dX5_readMinutes_27 : decode cX5_readMinutes 27 = .ok (.bipush 57, 2) := by decide +kernel
theorem dX5_readMinutes_29 : decode cX5_readMinutes 29 = .ok (.invokevirtual 111, 3) := by decide +kernel
theorem dX5_readMinutes_32 : decode cX5_readMinutes 32 = .ok (.ifCond .eq 23, 3) := by decide +kernel
theorem dX5_readMinutes_35 : decode cX5_readMinutes 35 = .ok (.aload_n 0, 1) := by decide +kernel
theorem dX5_readMinutes_36 : decode cX5_readMinutes 36 = .ok (.bipush 10, 2) := by decide +kernel
theorem dX5_readMinutes_38 : decode cX5_readMinutes 38 = .ok (.aload_n 0, 1) := by decide +kernel
theorem dX5_readMinutes_39 : decode cX5_readMinutes 39 = .ok (.getfield 117, 3) := by decide +kernel
theorem dX5_readMinutes_42 : decode cX5_readMinutes 42 = .ok (.imul, 1) := by decide +kernel
theorem dX5_readMinutes_43 : decode cX5_readMinutes 43 = .ok (.aload_n 0, 1) := by decide +kernel
theorem dX5_readMinutes_44 : decode cX5_readMinutes 44 = .ok (.bipush 48, 2) := by decide +kernel
theorem dX5_readMinutes_46 : decode cX5_readMinutes 46 = .ok (.bipush 57, 2) := by decide +kernel
theorem dX5_readMinutes_48 : decode cX5_readMinutes 48 = .ok (.invokevirtual 114, 3) := by decide +kernel
theorem dX5_readMinutes_51 : decode cX5_readMinutes 51 = .ok (.iadd, 1) := by decide +kernel
theorem dX5_readMinutes_52 : decode cX5_readMinutes 52 = .ok (.putfield 117, 3) := by decide +kernel
theorem dX5_readMinutes_55 : decode cX5_readMinutes 55 = .ok (.iconst 1, 1) := by decide +kernel
theorem dX5_readMinutes_56 : decode cX5_readMinutes 56 = .ok (.ireturn, 1) := by decide +kernel
set_option maxRecDepth 20000 in
theorem ggX5_readOffer_X5_takesOne : GoodIn wsX5_readOffer wsX5_takesOne := goodIn_r _ [8, 9, 10, 11, 12, 13, 7, 14, 15, 16, 17, 18, 28, 29, 30, 31, 32, 33, 34, 35, 36, 37, 38, 39] (by decide +kernel) (by decide +kernel)
set_option maxRecDepth 20000 in
theorem gX5_readOffer_X5_takesOne : GoodIn wsX5_readOffer (wsV RX5 114 RX5 yX5_takesOne wsX5_takesOne) := goodIn_app (goodIn_of _ (by decide +kernel)) ggX5_readOffer_X5_takesOne
set_option maxRecDepth 20000 in
theorem ggX5_readOffer_X5_takes : GoodIn wsX5_readOffer wsX5_takes := goodIn_r _ [22, 9, 11, 12, 13, 7, 14, 15, 10, 16, 17, 18, 28, 29, 30, 31, 32, 33, 34, 35, 36, 37, 38, 39] (by decide +kernel) (by decide +kernel)
set_option maxRecDepth 20000 in
theorem gX5_readOffer_X5_takes : GoodIn wsX5_readOffer (wsV RX5 129 RX5 yX5_takes wsX5_takes) := goodIn_app (goodIn_of _ (by decide +kernel)) ggX5_readOffer_X5_takes
set_option maxRecDepth 20000 in
theorem ggX5_readOffer_X5_readMinutes : GoodIn wsX5_readOffer wsX5_readMinutes := goodIn_r _ [26, 27, 4, 5, 6, 7, 8, 9, 10, 11, 12, 13, 14, 15, 16, 17, 18, 28, 29, 30, 31, 32, 33, 34, 35, 36, 37, 38, 39] (by decide +kernel) (by decide +kernel)
set_option maxRecDepth 20000 in
theorem gX5_readOffer_X5_readMinutes : GoodIn wsX5_readOffer (wsV RX5 132 RX5 yX5_readMinutes wsX5_readMinutes) := goodIn_app (goodIn_of _ (by decide +kernel)) ggX5_readOffer_X5_readMinutes
set_option maxRecDepth 20000 in
theorem ggX5_readOffer_X5_sees : GoodIn wsX5_readOffer wsX5_sees := goodIn_r _ [14, 9, 15, 10, 16, 17, 7, 18, 28, 29, 30, 31, 32, 33, 34, 35, 36, 37, 38, 39] (by decide +kernel) (by decide +kernel)
set_option maxRecDepth 20000 in
theorem gX5_readOffer_X5_sees : GoodIn wsX5_readOffer (wsV RX5 111 RX5 yX5_sees wsX5_sees) := goodIn_app (goodIn_of _ (by decide +kernel)) ggX5_readOffer_X5_sees
theorem dX5_readOffer_0 : decode cX5_readOffer 0 = .ok (.aload_n 0, 1) := by decide +kernel
theorem dX5_readOffer_1 : decode cX5_readOffer 1 = .ok (.aload_n 0, 1) := by decide +kernel
theorem dX5_readOffer_2 : decode cX5_readOffer 2 = .ok (.bipush 48, 2) := by decide +kernel
theorem dX5_readOffer_4 : decode cX5_readOffer 4 = .ok (.bipush 57, 2) := by decide +kernel
theorem dX5_readOffer_6 : decode cX5_readOffer 6 = .ok (.invokevirtual 114, 3) := by decide +kernel
theorem dX5_readOffer_9 : decode cX5_readOffer 9 = .ok (.putfield 120, 3) := by decide +kernel
theorem dX5_readOffer_12 : decode cX5_readOffer 12 = .ok (.aload_n 0, 1) := by decide +kernel
theorem dX5_readOffer_13 : decode cX5_readOffer 13 = .ok (.aload_n 0, 1) := by decide +kernel
theorem dX5_readOffer_14 : decode cX5_readOffer 14 = .ok (.getfield 120, 3) := by decide +kernel
theorem dX5_readOffer_17 : decode cX5_readOffer 17 = .ok (.bipush (-6), 2) := by decide +kernel
theorem dX5_readOffer_19 : decode cX5_readOffer 19 = .ok (.if_icmp .ne 8, 3) := by decide +kernel
theorem dX5_readOffer_22 : decode cX5_readOffer 22 = .ok (.bipush (-6), 2) := by decide +kernel
theorem dX5_readOffer_24 : decode cX5_readOffer 24 = .ok (.goto 11, 3) := by decide +kernel
theorem dX5_readOffer_27 : decode cX5_readOffer 27 = .ok (.aload_n 0, 1) := by decide +kernel
theorem dX5_readOffer_28 : decode cX5_readOffer 28 = .ok (.bipush 97, 2) := by decide +kernel
theorem dX5_readOffer_30 : decode cX5_readOffer 30 = .ok (.bipush 108, 2) := by decide +kernel
theorem dX5_readOffer_32 : decode cX5_readOffer 32 = .ok (.invokevirtual 114, 3) := by decide +kernel
theorem dX5_readOffer_35 : decode cX5_readOffer 35 = .ok (.putfield 123, 3) := by decide +kernel
theorem dX5_readOffer_38 : decode cX5_readOffer 38 = .ok (.aload_n 0, 1) := by decide +kernel
theorem dX5_readOffer_39 : decode cX5_readOffer 39 = .ok (.bipush (-6), 2) := by decide +kernel
theorem dX5_readOffer_41 : decode cX5_readOffer 41 = .ok (.putfield 126, 3) := by decide +kernel
theorem dX5_readOffer_44 : decode cX5_readOffer 44 = .ok (.aload_n 0, 1) := by decide +kernel
theorem dX5_readOffer_45 : decode cX5_readOffer 45 = .ok (.getfield 123, 3) := by decide +kernel
theorem dX5_readOffer_48 : decode cX5_readOffer 48 = .ok (.bipush (-6), 2) := by decide +kernel
theorem dX5_readOffer_50 : decode cX5_readOffer 50 = .ok (.if_icmp .eq 19, 3) := by decide +kernel
theorem dX5_readOffer_53 : decode cX5_readOffer 53 = .ok (.aload_n 0, 1) := by decide +kernel
theorem dX5_readOffer_54 : decode cX5_readOffer 54 = .ok (.bipush 109, 2) := by decide +kernel
theorem dX5_readOffer_56 : decode cX5_readOffer 56 = .ok (.invokevirtual 129, 3) := by decide +kernel
theorem dX5_readOffer_59 : decode cX5_readOffer 59 = .ok (.ifCond .eq 10, 3) := by decide +kernel
theorem dX5_readOffer_62 : decode cX5_readOffer 62 = .ok (.aload_n 0, 1) := by decide +kernel
theorem dX5_readOffer_63 : decode cX5_readOffer 63 = .ok (.invokevirtual 132, 3) := by decide +kernel
theorem dX5_readOffer_66 : decode cX5_readOffer 66 = .ok (.ifCond .ne 5, 3) := by decide +kernel
theorem dX5_readOffer_69 : decode cX5_readOffer 69 = .ok (.iconst 0, 1) := by decide +kernel
theorem dX5_readOffer_70 : decode cX5_readOffer 70 = .ok (.ireturn, 1) := by decide +kernel
theorem dX5_readOffer_71 : decode cX5_readOffer 71 = .ok (.aload_n 0, 1) := by decide +kernel
theorem dX5_readOffer_72 : decode cX5_readOffer 72 = .ok (.bipush 119, 2) := by decide +kernel
theorem dX5_readOffer_74 : decode cX5_readOffer 74 = .ok (.invokevirtual 129, 3) := by decide +kernel
theorem dX5_readOffer_77 : decode cX5_readOffer 77 = .ok (.ifCond .ne 5, 3) := by decide +kernel
theorem dX5_readOffer_80 : decode cX5_readOffer 80 = .ok (.iconst 1, 1) := by decide +kernel
theorem dX5_readOffer_81 : decode cX5_readOffer 81 = .ok (.ireturn, 1) := by decide +kernel
theorem dX5_readOffer_82 : decode cX5_readOffer 82 = .ok (.aload_n 0, 1) := by decide +kernel
theorem dX5_readOffer_83 : decode cX5_readOffer 83 = .ok (.bipush 48, 2) := by decide +kernel
theorem dX5_readOffer_85 : decode cX5_readOffer 85 = .ok (.aload_n 0, 1) := by decide +kernel
theorem dX5_readOffer_86 : decode cX5_readOffer 86 = .ok (.getfield 120, 3) := by decide +kernel
theorem dX5_readOffer_89 : decode cX5_readOffer 89 = .ok (.iadd, 1) := by decide +kernel
theorem dX5_readOffer_90 : decode cX5_readOffer 90 = .ok (.bipush 48, 2) := by decide +kernel
theorem dX5_readOffer_92 : decode cX5_readOffer 92 = .ok (.aload_n 0, 1) := by decide +kernel
theorem dX5_readOffer_93 : decode cX5_readOffer 93 = .ok (.getfield 120, 3) := by decide +kernel
theorem dX5_readOffer_96 : decode cX5_readOffer 96 = .ok (.iadd, 1) := by decide +kernel
theorem dX5_readOffer_97 : decode cX5_readOffer 97 = .ok (.invokevirtual 111, 3) := by decide +kernel
theorem dX5_readOffer_100 : decode cX5_readOffer 100 = .ok (.ifCond .eq 5, 3) := by decide +kernel
theorem dX5_readOffer_103 : decode cX5_readOffer 103 = .ok (.iconst 0, 1) := by decide +kernel
theorem dX5_readOffer_104 : decode cX5_readOffer 104 = .ok (.ireturn, 1) := by decide +kernel
theorem dX5_readOffer_105 : decode cX5_readOffer 105 = .ok (.aload_n 0, 1) := by decide +kernel
theorem dX5_readOffer_106 : decode cX5_readOffer 106 = .ok (.aload_n 0, 1) := by decide +kernel
theorem dX5_readOffer_107 : decode cX5_readOffer 107 = .ok (.bipush 48, 2) := by decide +kernel
theorem dX5_readOffer_109 : decode cX5_readOffer 109 = .ok (.bipush 57, 2) := by decide +kernel
theorem dX5_readOffer_111 : decode cX5_readOffer 111 = .ok (.invokevirtual 114, 3) := by decide +kernel
theorem dX5_readOffer_114 : decode cX5_readOffer 114 = .ok (.putfield 126, 3) := by decide +kernel
theorem dX5_readOffer_117 : decode cX5_readOffer 117 = .ok (.aload_n 0, 1) := by decide +kernel
theorem dX5_readOffer_118 : decode cX5_readOffer 118 = .ok (.getfield 126, 3) := by decide +kernel
theorem dX5_readOffer_121 : decode cX5_readOffer 121 = .ok (.bipush (-6), 2) := by decide +kernel
theorem dX5_readOffer_123 : decode cX5_readOffer 123 = .ok (.if_icmp .eq 7, 3) := by decide +kernel
theorem dX5_readOffer_126 : decode cX5_readOffer 126 = .ok (.iconst 1, 1) := by decide +kernel
theorem dX5_readOffer_127 : decode cX5_readOffer 127 = .ok (.goto 4, 3) := by decide +kernel
theorem dX5_readOffer_130 : decode cX5_readOffer 130 = .ok (.iconst 0, 1) := by decide +kernel
theorem dX5_readOffer_131 : decode cX5_readOffer 131 = .ok (.ireturn, 1) := by decide +kernel
set_option maxRecDepth 20000 in
theorem ggX5_readPad_X5_readOffer : GoodIn wsX5_readPad wsX5_readOffer := goodIn_r _ [11, 3, 2, 4, 12, 13, 14, 10, 15, 1, 16, 17, 18, 19, 20, 6, 21, 22, 23, 24, 25, 26, 27, 28, 29, 30, 31, 5, 93, 94, 95, 96, 97, 98, 99, 100, 101, 102, 103, 104] (by decide +kernel) (by decide +kernel)
set_option maxRecDepth 20000 in
theorem gX5_readPad_X5_readOffer : GoodIn wsX5_readPad (wsV RX5 136 RX5 yX5_readOffer wsX5_readOffer) := goodIn_app (goodIn_of _ (by decide +kernel)) ggX5_readPad_X5_readOffer
set_option maxRecDepth 20000 in
theorem ggX5_readPad_X5_isExcuse : GoodIn wsX5_readPad wsX5_isExcuse := goodIn_r _ [35, 36, 21, 22, 10, 23, 93, 94, 95, 96, 97, 98, 99, 100, 101, 102, 103, 104] (by decide +kernel) (by decide +kernel)
set_option maxRecDepth 20000 in
theorem gX5_readPad_X5_isExcuse : GoodIn wsX5_readPad (wsV RX5 79 RX5 yX5_isExcuse wsX5_isExcuse) := goodIn_app (goodIn_of _ (by decide +kernel)) ggX5_readPad_X5_isExcuse
set_option maxRecDepth 20000 in
theorem ggX5_readPad_X5_offerNow : GoodIn wsX5_readPad wsX5_offerNow := goodIn_r _ [40, 36, 41, 42, 43, 10, 44, 45, 46, 47, 48, 49, 50, 51, 52, 53, 54, 55, 56, 57, 58, 59, 60, 61, 62, 63, 64, 65, 66, 67, 68, 69, 70, 71, 72, 73, 74, 75, 76, 77, 78, 79, 80, 81, 82, 83, 84, 85, 86, 87, 88, 89, 90, 91, 92, 93, 94, 95, 96, 97, 98, 99, 100, 101, 102, 103, 104] (by decide +kernel) (by decide +kernel)
set_option maxRecDepth 20000 in
theorem gX5_readPad_X5_offerNow : GoodIn wsX5_readPad (wsV RX5 100 RX5 yX5_offerNow wsX5_offerNow) := goodIn_app (goodIn_of _ (by decide +kernel)) ggX5_readPad_X5_offerNow
set_option maxRecDepth 20000 in
theorem ggX5_readPad_X5_takes : GoodIn wsX5_readPad wsX5_takes := goodIn_r _ [27, 1, 17, 18, 19, 10, 20, 6, 16, 21, 22, 23, 93, 94, 95, 96, 97, 98, 99, 100, 101, 102, 103, 104] (by decide +kernel) (by decide +kernel)
set_option maxRecDepth 20000 in
theorem gX5_readPad_X5_takes : GoodIn wsX5_readPad (wsV RX5 129 RX5 yX5_takes wsX5_takes) := goodIn_app (goodIn_of _ (by decide +kernel)) ggX5_readPad_X5_takes
theorem dX5_readPad_0 : decode cX5_readPad 0 = .ok (.aload_n 0, 1) := by decide +kernel
theorem dX5_readPad_1 : decode cX5_readPad 1 = .ok (.iconst 0, 1) := by decide +kernel
theorem dX5_readPad_2 : decode cX5_readPad 2 = .ok (.putfield 108, 3) := by decide +kernel
theorem dX5_readPad_5 : decode cX5_readPad 5 = .ok (.iconst 0, 1) := by decide +kernel
theorem dX5_readPad_6 : decode cX5_readPad 6 = .ok (.istore_n 2, 1) := by decide +kernel
theorem dX5_readPad_7 : decode cX5_readPad 7 = .ok (.iconst 1, 1) := by decide +kernel
theorem dX5_readPad_8 : decode cX5_readPad 8 = .ok (.istore_n 3, 1) := by decide +kernel
theorem dX5_readPad_9 : decode cX5_readPad 9 = .ok (.iload_n 3, 1) := by decide +kernel
theorem dX5_readPad_10 : decode cX5_readPad 10 = .ok (.ifCond .eq 69, 3) := by decide +kernel
theorem dX5_readPad_13 : decode cX5_readPad 13 = .ok (.aload_n 0, 1) := by decide +kernel
theorem dX5_readPad_14 : decode cX5_readPad 14 = .ok (.invokevirtual 136, 3) := by decide +kernel
theorem dX5_readPad_17 : decode cX5_readPad 17 = .ok (.ifCond .ne 6, 3) := by decide +kernel
theorem dX5_readPad_20 : decode cX5_readPad 20 = .ok (.bipush (-6), 2) := by decide +kernel
theorem dX5_readPad_22 : decode cX5_readPad 22 = .ok (.ireturn, 1) := by decide +kernel
theorem dX5_readPad_23 : decode cX5_readPad 23 = .ok (.iload_n 2, 1) := by decide +kernel
theorem dX5_readPad_24 : decode cX5_readPad 24 = .ok (.iload_n 1, 1) := by decide +kernel
theorem dX5_readPad_25 : decode cX5_readPad 25 = .ok (.ifCond .eq 41, 3) := by decide +kernel
theorem dX5_readPad_28 : decode cX5_readPad 28 = .ok (.aload_n 0, 1) := by decide +kernel
theorem dX5_readPad_29 : decode cX5_readPad 29 = .ok (.aload_n 0, 1) := by decide +kernel
theorem dX5_readPad_30 : decode cX5_readPad 30 = .ok (.getfield 123, 3) := by decide +kernel
theorem dX5_readPad_33 : decode cX5_readPad 33 = .ok (.invokevirtual 79, 3) := by decide +kernel
theorem dX5_readPad_36 : decode cX5_readPad 36 = .ok (.ifCond .eq 30, 3) := by decide +kernel
theorem dX5_readPad_39 : decode cX5_readPad 39 = .ok (.aload_n 0, 1) := by decide +kernel
theorem dX5_readPad_40 : decode cX5_readPad 40 = .ok (.aload_n 0, 1) := by decide +kernel
theorem dX5_readPad_41 : decode cX5_readPad 41 = .ok (.getfield 120, 3) := by decide +kernel
theorem dX5_readPad_44 : decode cX5_readPad 44 = .ok (.aload_n 0, 1) := by decide +kernel
theorem dX5_readPad_45 : decode cX5_readPad 45 = .ok (.getfield 123, 3) := by decide +kernel
theorem dX5_readPad_48 : decode cX5_readPad 48 = .ok (.aload_n 0, 1) := by decide +kernel
theorem dX5_readPad_49 : decode cX5_readPad 49 = .ok (.getfield 126, 3) := by decide +kernel
theorem dX5_readPad_52 : decode cX5_readPad 52 = .ok (.aload_n 0, 1) := by decide +kernel
theorem dX5_readPad_53 : decode cX5_readPad 53 = .ok (.getfield 117, 3) := by decide +kernel
theorem dX5_readPad_56 : decode cX5_readPad 56 = .ok (.invokevirtual 100, 3) := by decide +kernel
theorem dX5_readPad_59 : decode cX5_readPad 59 = .ok (.ifCond .ne 7, 3) := by decide +kernel
theorem dX5_readPad_62 : decode cX5_readPad 62 = .ok (.iconst 1, 1) := by decide +kernel
theorem dX5_readPad_63 : decode cX5_readPad 63 = .ok (.goto 4, 3) := by decide +kernel
theorem dX5_readPad_66 : decode cX5_readPad 66 = .ok (.iconst 0, 1) := by decide +kernel
theorem dX5_readPad_67 : decode cX5_readPad 67 = .ok (.iadd, 1) := by decide +kernel
theorem dX5_readPad_68 : decode cX5_readPad 68 = .ok (.istore_n 2, 1) := by decide +kernel
theorem dX5_readPad_69 : decode cX5_readPad 69 = .ok (.aload_n 0, 1) := by decide +kernel
theorem dX5_readPad_70 : decode cX5_readPad 70 = .ok (.bipush 44, 2) := by decide +kernel
theorem dX5_readPad_72 : decode cX5_readPad 72 = .ok (.invokevirtual 129, 3) := by decide +kernel
theorem dX5_readPad_75 : decode cX5_readPad 75 = .ok (.istore_n 3, 1) := by decide +kernel
theorem dX5_readPad_76 : decode cX5_readPad 76 = .ok (.goto (-67), 3) := by decide +kernel
theorem dX5_readPad_79 : decode cX5_readPad 79 = .ok (.aload_n 0, 1) := by decide +kernel
theorem dX5_readPad_80 : decode cX5_readPad 80 = .ok (.getfield 108, 3) := by decide +kernel
theorem dX5_readPad_83 : decode cX5_readPad 83 = .ok (.aload_n 0, 1) := by decide +kernel
theorem dX5_readPad_84 : decode cX5_readPad 84 = .ok (.getfield 105, 3) := by decide +kernel
theorem dX5_readPad_87 : decode cX5_readPad 87 = .ok (.if_icmp .ne 7, 3) := by decide +kernel
theorem dX5_readPad_90 : decode cX5_readPad 90 = .ok (.iload_n 2, 1) := by decide +kernel
theorem dX5_readPad_91 : decode cX5_readPad 91 = .ok (.goto 5, 3) := by decide +kernel
theorem dX5_readPad_94 : decode cX5_readPad 94 = .ok (.bipush (-6), 2) := by decide +kernel
theorem dX5_readPad_96 : decode cX5_readPad 96 = .ok (.ireturn, 1) := by decide +kernel
set_option maxRecDepth 20000 in
theorem ggX5_fault_X5_readPad : GoodIn wsX5_fault wsX5_readPad := goodIn_r _ [6, 1, 7, 8, 9, 10, 11, 12, 13, 14, 5, 15, 16, 17, 18, 19, 20, 21, 22, 23, 24, 25, 26, 27, 28, 29, 30, 31, 32, 33, 34, 35, 36, 37, 38, 39, 40, 41, 42, 43, 44, 45, 46, 47, 48, 49, 50, 51, 52, 53, 54, 55, 56, 57, 58, 59, 60, 61, 62, 63, 64, 65, 66, 67, 68, 69, 70, 71, 72, 73, 74, 75, 76, 77, 78, 79, 80, 81, 82, 83, 84, 85, 86, 87, 88, 89, 90, 91, 92, 93, 94, 95, 96, 97, 98, 99, 100, 101, 102, 103, 104, 105, 106, 107, 108] (by decide +kernel) (by decide +kernel)
set_option maxRecDepth 20000 in
theorem gX5_fault_X5_readPad : GoodIn wsX5_fault (wsV RX5 139 RX5 yX5_readPad wsX5_readPad) := goodIn_app (goodIn_of _ (by decide +kernel)) ggX5_fault_X5_readPad
theorem dX5_fault_0 : decode cX5_fault 0 = .ok (.aload_n 0, 1) := by decide +kernel
theorem dX5_fault_1 : decode cX5_fault 1 = .ok (.iconst 0, 1) := by decide +kernel
theorem dX5_fault_2 : decode cX5_fault 2 = .ok (.invokevirtual 139, 3) := by decide +kernel
theorem dX5_fault_5 : decode cX5_fault 5 = .ok (.bipush (-6), 2) := by decide +kernel
theorem dX5_fault_7 : decode cX5_fault 7 = .ok (.if_icmp .ne 10, 3) := by decide +kernel
theorem dX5_fault_10 : decode cX5_fault 10 = .ok (.aload_n 0, 1) := by decide +kernel
theorem dX5_fault_11 : decode cX5_fault 11 = .ok (.getfield 108, 3) := by decide +kernel
theorem dX5_fault_14 : decode cX5_fault 14 = .ok (.goto 5, 3) := by decide +kernel
theorem dX5_fault_17 : decode cX5_fault 17 = .ok (.bipush (-6), 2) := by decide +kernel
theorem dX5_fault_19 : decode cX5_fault 19 = .ok (.ireturn, 1) := by decide +kernel
set_option maxRecDepth 20000 in
theorem ggX5_read_X5_readPad : GoodIn wsX5_read wsX5_readPad := goodIn_r _ [6, 7, 8, 9, 10, 11, 1, 12, 13, 14, 5, 15, 16, 17, 18, 19, 20, 21, 22, 23, 24, 25, 26, 27, 28, 29, 30, 31, 32, 33, 34, 35, 36, 37, 38, 39, 40, 41, 42, 43, 44, 45, 46, 47, 48, 49, 50, 51, 52, 53, 54, 55, 56, 57, 58, 59, 60, 61, 62, 63, 64, 65, 66, 67, 68, 69, 70, 71, 72, 73, 74, 75, 76, 77, 78, 79, 80, 81, 82, 83, 84, 85, 86, 87, 88, 89, 90, 91, 92, 93, 94, 95, 96, 106, 107, 108, 109, 110, 111, 112, 113, 114, 115, 116, 117] (by decide +kernel) (by decide +kernel)
set_option maxRecDepth 20000 in
theorem gX5_read_X5_readPad : GoodIn wsX5_read (wsV RX5 139 RX5 yX5_readPad wsX5_readPad) := goodIn_app (goodIn_of _ (by decide +kernel)) ggX5_read_X5_readPad
set_option maxRecDepth 20000 in
theorem ggX5_read_X5_record : GoodIn wsX5_read wsX5_record := goodIn_r _ [100, 101, 102, 40, 103, 104, 5, 105, 106, 107, 108, 109, 110, 111, 112, 113, 114, 115, 116, 117] (by decide +kernel) (by decide +kernel)
set_option maxRecDepth 20000 in
theorem gX5_read_X5_record : GoodIn wsX5_read (wsV RX5 42 RX5 yX5_record wsX5_record) := goodIn_app (goodIn_of _ (by decide +kernel)) ggX5_read_X5_record
theorem dX5_read_0 : decode cX5_read 0 = .ok (.aload_n 0, 1) := by decide +kernel
theorem dX5_read_1 : decode cX5_read 1 = .ok (.iconst 0, 1) := by decide +kernel
theorem dX5_read_2 : decode cX5_read 2 = .ok (.invokevirtual 139, 3) := by decide +kernel
theorem dX5_read_5 : decode cX5_read 5 = .ok (.bipush (-6), 2) := by decide +kernel
theorem dX5_read_7 : decode cX5_read 7 = .ok (.if_icmp .ne 6, 3) := by decide +kernel
theorem dX5_read_10 : decode cX5_read 10 = .ok (.bipush (-3), 2) := by decide +kernel
theorem dX5_read_12 : decode cX5_read 12 = .ok (.ireturn, 1) := by decide +kernel
theorem dX5_read_13 : decode cX5_read 13 = .ok (.aload_n 0, 1) := by decide +kernel
theorem dX5_read_14 : decode cX5_read 14 = .ok (.invokevirtual 42, 3) := by decide +kernel
theorem dX5_read_17 : decode cX5_read 17 = .ok (.aload_n 0, 1) := by decide +kernel
theorem dX5_read_18 : decode cX5_read 18 = .ok (.iconst 1, 1) := by decide +kernel
theorem dX5_read_19 : decode cX5_read 19 = .ok (.invokevirtual 139, 3) := by decide +kernel
theorem dX5_read_22 : decode cX5_read 22 = .ok (.istore_n 1, 1) := by decide +kernel
theorem dX5_read_23 : decode cX5_read 23 = .ok (.aload_n 0, 1) := by decide +kernel
theorem dX5_read_24 : decode cX5_read 24 = .ok (.iconst 0, 1) := by decide +kernel
theorem dX5_read_25 : decode cX5_read 25 = .ok (.putfield 105, 3) := by decide +kernel
theorem dX5_read_28 : decode cX5_read 28 = .ok (.iload_n 1, 1) := by decide +kernel
theorem dX5_read_29 : decode cX5_read 29 = .ok (.ireturn, 1) := by decide +kernel
set_option maxRecDepth 20000 in
theorem ggX5_users_X5_uses : GoodIn wsX5_users wsX5_uses := goodIn_r _ [5, 6, 7, 8, 9, 10, 11, 12, 13, 14, 15, 16, 17, 18] (by decide +kernel) (by decide +kernel)
set_option maxRecDepth 20000 in
theorem gX5_users_X5_uses : GoodIn wsX5_users (wsV RX5 45 RX5 yX5_uses wsX5_uses) := goodIn_app (goodIn_of _ (by decide +kernel)) ggX5_users_X5_uses
theorem dX5_users_0 : decode cX5_users 0 = .ok (.iconst 0, 1) := by decide +kernel
theorem dX5_users_1 : decode cX5_users 1 = .ok (.istore_n 2, 1) := by decide +kernel
theorem dX5_users_2 : decode cX5_users 2 = .ok (.iconst 0, 1) := by decide +kernel
theorem dX5_users_3 : decode cX5_users 3 = .ok (.istore_n 3, 1) := by decide +kernel
theorem dX5_users_4 : decode cX5_users 4 = .ok (.iload_n 3, 1) := by decide +kernel
theorem dX5_users_5 : decode cX5_users 5 = .ok (.bipush 10, 2) := by decide +kernel
theorem dX5_users_7 : decode cX5_users 7 = .ok (.if_icmp .ge 28, 3) := by decide +kernel
theorem dX5_users_10 : decode cX5_users 10 = .ok (.iload_n 2, 1) := by decide +kernel
theorem dX5_users_11 : decode cX5_users 11 = .ok (.aload_n 0, 1) := by decide +kernel
theorem dX5_users_12 : decode cX5_users 12 = .ok (.iload_n 3, 1) := by decide +kernel
theorem dX5_users_13 : decode cX5_users 13 = .ok (.iload_n 1, 1) := by decide +kernel
theorem dX5_users_14 : decode cX5_users 14 = .ok (.invokevirtual 45, 3) := by decide +kernel
theorem dX5_users_17 : decode cX5_users 17 = .ok (.ifCond .le 9, 3) := by decide +kernel
theorem dX5_users_20 : decode cX5_users 20 = .ok (.iconst 1, 1) := by decide +kernel
theorem dX5_users_21 : decode cX5_users 21 = .ok (.iload_n 3, 1) := by decide +kernel
theorem dX5_users_22 : decode cX5_users 22 = .ok (.ishl, 1) := by decide +kernel
theorem dX5_users_23 : decode cX5_users 23 = .ok (.goto 4, 3) := by decide +kernel
theorem dX5_users_26 : decode cX5_users 26 = .ok (.iconst 0, 1) := by decide +kernel
theorem dX5_users_27 : decode cX5_users 27 = .ok (.ior, 1) := by decide +kernel
theorem dX5_users_28 : decode cX5_users 28 = .ok (.istore_n 2, 1) := by decide +kernel
theorem dX5_users_29 : decode cX5_users 29 = .ok (.iinc 3 1, 3) := by decide +kernel
theorem dX5_users_32 : decode cX5_users 32 = .ok (.goto (-28), 3) := by decide +kernel
theorem dX5_users_35 : decode cX5_users 35 = .ok (.iload_n 2, 1) := by decide +kernel
theorem dX5_users_36 : decode cX5_users 36 = .ok (.ireturn, 1) := by decide +kernel
set_option maxRecDepth 20000 in
theorem ggX5_excuse_X5_isExcuse : GoodIn wsX5_excuse wsX5_isExcuse := goodIn_r _ [5, 6, 7, 8, 4, 9, 26, 27, 28, 29, 30, 31, 32, 33, 34, 35, 36, 37] (by decide +kernel) (by decide +kernel)
set_option maxRecDepth 20000 in
theorem gX5_excuse_X5_isExcuse : GoodIn wsX5_excuse (wsV RX5 79 RX5 yX5_isExcuse wsX5_isExcuse) := goodIn_app (goodIn_of _ (by decide +kernel)) ggX5_excuse_X5_isExcuse
set_option maxRecDepth 20000 in
theorem ggX5_excuse_X5_ofExcuse : GoodIn wsX5_excuse wsX5_ofExcuse := goodIn_r _ [13, 6, 26, 27, 28, 29, 30, 31, 32, 33, 34, 35, 36, 37] (by decide +kernel) (by decide +kernel)
set_option maxRecDepth 20000 in
theorem gX5_excuse_X5_ofExcuse : GoodIn wsX5_excuse (wsV RX5 59 RX5 yX5_ofExcuse wsX5_ofExcuse) := goodIn_app (goodIn_of _ (by decide +kernel)) ggX5_excuse_X5_ofExcuse
set_option maxRecDepth 20000 in
theorem ggX5_excuse_X5_usesBySchool : GoodIn wsX5_excuse wsX5_usesBySchool := goodIn_r _ [17, 18, 19, 20, 4, 21, 6, 26, 27, 28, 29, 30, 31, 32, 33, 34, 35, 36, 37] (by decide +kernel) (by decide +kernel)
set_option maxRecDepth 20000 in
theorem gX5_excuse_X5_usesBySchool : GoodIn wsX5_excuse (wsV RX5 49 RX5 yX5_usesBySchool wsX5_usesBySchool) := goodIn_app (goodIn_of _ (by decide +kernel)) ggX5_excuse_X5_usesBySchool
set_option maxRecDepth 20000 in
theorem ggX5_excuse_X5_users : GoodIn wsX5_excuse wsX5_users := goodIn_r _ [25, 18, 19, 20, 4, 21, 6, 26, 27, 28, 29, 30, 31, 32, 33, 34, 35, 36, 37] (by decide +kernel) (by decide +kernel)
set_option maxRecDepth 20000 in
theorem gX5_excuse_X5_users : GoodIn wsX5_excuse (wsV RX5 143 RX5 yX5_users wsX5_users) := goodIn_app (goodIn_of _ (by decide +kernel)) ggX5_excuse_X5_users
theorem dX5_excuse_0 : decode cX5_excuse 0 = .ok (.aload_n 0, 1) := by decide +kernel
theorem dX5_excuse_1 : decode cX5_excuse 1 = .ok (.iload_n 1, 1) := by decide +kernel
theorem dX5_excuse_2 : decode cX5_excuse 2 = .ok (.invokevirtual 79, 3) := by decide +kernel
theorem dX5_excuse_5 : decode cX5_excuse 5 = .ok (.ifCond .ne 5, 3) := by decide +kernel
theorem dX5_excuse_8 : decode cX5_excuse 8 = .ok (.iconst (-1), 1) := by decide +kernel
theorem dX5_excuse_9 : decode cX5_excuse 9 = .ok (.ireturn, 1) := by decide +kernel
theorem dX5_excuse_10 : decode cX5_excuse 10 = .ok (.iload_n 2, 1) := by decide +kernel
theorem dX5_excuse_11 : decode cX5_excuse 11 = .ok (.tableswitch 59 0 4 #[33, 33, 40, 46, 53], 33) := by decide +kernel
theorem dX5_excuse_44 : decode cX5_excuse 44 = .ok (.aload_n 0, 1) := by decide +kernel
theorem dX5_excuse_45 : decode cX5_excuse 45 = .ok (.iload_n 1, 1) := by decide +kernel
theorem dX5_excuse_46 : decode cX5_excuse 46 = .ok (.iload_n 2, 1) := by decide +kernel
theorem dX5_excuse_47 : decode cX5_excuse 47 = .ok (.invokevirtual 59, 3) := by decide +kernel
theorem dX5_excuse_50 : decode cX5_excuse 50 = .ok (.ireturn, 1) := by decide +kernel
theorem dX5_excuse_51 : decode cX5_excuse 51 = .ok (.aload_n 0, 1) := by decide +kernel
theorem dX5_excuse_52 : decode cX5_excuse 52 = .ok (.iload_n 1, 1) := by decide +kernel
theorem dX5_excuse_53 : decode cX5_excuse 53 = .ok (.invokevirtual 49, 3) := by decide +kernel
theorem dX5_excuse_56 : decode cX5_excuse 56 = .ok (.ireturn, 1) := by decide +kernel
theorem dX5_excuse_57 : decode cX5_excuse 57 = .ok (.aload_n 0, 1) := by decide +kernel
theorem dX5_excuse_58 : decode cX5_excuse 58 = .ok (.iload_n 1, 1) := by decide +kernel
theorem dX5_excuse_59 : decode cX5_excuse 59 = .ok (.iconst 2, 1) := by decide +kernel
theorem dX5_excuse_60 : decode cX5_excuse 60 = .ok (.invokevirtual 59, 3) := by decide +kernel
theorem dX5_excuse_63 : decode cX5_excuse 63 = .ok (.ireturn, 1) := by decide +kernel
theorem dX5_excuse_64 : decode cX5_excuse 64 = .ok (.aload_n 0, 1) := by decide +kernel
theorem dX5_excuse_65 : decode cX5_excuse 65 = .ok (.iload_n 1, 1) := by decide +kernel
theorem dX5_excuse_66 : decode cX5_excuse 66 = .ok (.invokevirtual 143, 3) := by decide +kernel
theorem dX5_excuse_69 : decode cX5_excuse 69 = .ok (.ireturn, 1) := by decide +kernel
theorem dX5_excuse_70 : decode cX5_excuse 70 = .ok (.bipush (-2), 2) := by decide +kernel
theorem dX5_excuse_72 : decode cX5_excuse 72 = .ok (.ireturn, 1) := by decide +kernel
set_option maxRecDepth 20000 in
theorem ggX5_usesBy_X5_uses : GoodIn wsX5_usesBy wsX5_uses := goodIn_r _ [6, 1, 7, 8, 9, 10, 11, 12, 13, 14, 15, 16, 17, 18] (by decide +kernel) (by decide +kernel)
set_option maxRecDepth 20000 in
theorem gX5_usesBy_X5_uses : GoodIn wsX5_usesBy (wsV RX5 45 RX5 yX5_uses wsX5_uses) := goodIn_app (goodIn_of _ (by decide +kernel)) ggX5_usesBy_X5_uses
theorem dX5_usesBy_0 : decode cX5_usesBy 0 = .ok (.iconst 0, 1) := by decide +kernel
theorem dX5_usesBy_1 : decode cX5_usesBy 1 = .ok (.istore_n 2, 1) := by decide +kernel
theorem dX5_usesBy_2 : decode cX5_usesBy 2 = .ok (.iconst 0, 1) := by decide +kernel
theorem dX5_usesBy_3 : decode cX5_usesBy 3 = .ok (.istore_n 3, 1) := by decide +kernel
theorem dX5_usesBy_4 : decode cX5_usesBy 4 = .ok (.iload_n 3, 1) := by decide +kernel
theorem dX5_usesBy_5 : decode cX5_usesBy 5 = .ok (.aload_n 0, 1) := by decide +kernel
theorem dX5_usesBy_6 : decode cX5_usesBy 6 = .ok (.getfield 7, 3) := by decide +kernel
theorem dX5_usesBy_9 : decode cX5_usesBy 9 = .ok (.iconst 5, 1) := by decide +kernel
theorem dX5_usesBy_10 : decode cX5_usesBy 10 = .ok (.iaload, 1) := by decide +kernel
theorem dX5_usesBy_11 : decode cX5_usesBy 11 = .ok (.if_icmp .ge 18, 3) := by decide +kernel
theorem dX5_usesBy_14 : decode cX5_usesBy 14 = .ok (.iload_n 2, 1) := by decide +kernel
theorem dX5_usesBy_15 : decode cX5_usesBy 15 = .ok (.aload_n 0, 1) := by decide +kernel
theorem dX5_usesBy_16 : decode cX5_usesBy 16 = .ok (.iload_n 1, 1) := by decide +kernel
theorem dX5_usesBy_17 : decode cX5_usesBy 17 = .ok (.iload_n 3, 1) := by decide +kernel
theorem dX5_usesBy_18 : decode cX5_usesBy 18 = .ok (.invokevirtual 45, 3) := by decide +kernel
theorem dX5_usesBy_21 : decode cX5_usesBy 21 = .ok (.iadd, 1) := by decide +kernel
theorem dX5_usesBy_22 : decode cX5_usesBy 22 = .ok (.istore_n 2, 1) := by decide +kernel
theorem dX5_usesBy_23 : decode cX5_usesBy 23 = .ok (.iinc 3 1, 3) := by decide +kernel
theorem dX5_usesBy_26 : decode cX5_usesBy 26 = .ok (.goto (-22), 3) := by decide +kernel
theorem dX5_usesBy_29 : decode cX5_usesBy 29 = .ok (.iload_n 2, 1) := by decide +kernel
theorem dX5_usesBy_30 : decode cX5_usesBy 30 = .ok (.ireturn, 1) := by decide +kernel
set_option maxRecDepth 20000 in
theorem ggX5_pupil_X5_isPupil : GoodIn wsX5_pupil wsX5_isPupil := goodIn_r _ [4, 5, 6, 3, 7] (by decide +kernel) (by decide +kernel)
set_option maxRecDepth 20000 in
theorem gX5_pupil_X5_isPupil : GoodIn wsX5_pupil (va_wsS RX5 83 yX5_isPupil wsX5_isPupil) := goodIn_app (goodIn_of _ (by decide +kernel)) ggX5_pupil_X5_isPupil
set_option maxRecDepth 20000 in
theorem ggX5_pupil_X5_of : GoodIn wsX5_pupil wsX5_of := goodIn_r _ [11, 12, 25, 26, 27, 28, 29, 30, 31, 32, 33, 34, 35, 36] (by decide +kernel) (by decide +kernel)
set_option maxRecDepth 20000 in
theorem gX5_pupil_X5_of : GoodIn wsX5_pupil (wsV RX5 56 RX5 yX5_of wsX5_of) := goodIn_app (goodIn_of _ (by decide +kernel)) ggX5_pupil_X5_of
set_option maxRecDepth 20000 in
theorem ggX5_pupil_X5_usesBy : GoodIn wsX5_pupil wsX5_usesBy := goodIn_r _ [16, 12, 17, 18, 19, 3, 20, 25, 26, 27, 28, 29, 30, 31, 32, 33, 34, 35, 36] (by decide +kernel) (by decide +kernel)
set_option maxRecDepth 20000 in
theorem gX5_pupil_X5_usesBy : GoodIn wsX5_pupil (wsV RX5 146 RX5 yX5_usesBy wsX5_usesBy) := goodIn_app (goodIn_of _ (by decide +kernel)) ggX5_pupil_X5_usesBy
set_option maxRecDepth 20000 in
theorem ggX5_pupil_X5_grudge : GoodIn wsX5_pupil wsX5_grudge := goodIn_r _ [24, 12, 25, 26, 27, 28, 29, 30, 31, 32, 33, 34, 35, 36] (by decide +kernel) (by decide +kernel)
set_option maxRecDepth 20000 in
theorem gX5_pupil_X5_grudge : GoodIn wsX5_pupil (wsV RX5 65 RX5 yX5_grudge wsX5_grudge) := goodIn_app (goodIn_of _ (by decide +kernel)) ggX5_pupil_X5_grudge
theorem dX5_pupil_0 : decode cX5_pupil 0 = .ok (.iload_n 1, 1) := by decide +kernel
theorem dX5_pupil_1 : decode cX5_pupil 1 = .ok (.invokestatic 83, 3) := by decide +kernel
theorem dX5_pupil_4 : decode cX5_pupil 4 = .ok (.ifCond .ne 5, 3) := by decide +kernel
theorem dX5_pupil_7 : decode cX5_pupil 7 = .ok (.iconst (-1), 1) := by decide +kernel
theorem dX5_pupil_8 : decode cX5_pupil 8 = .ok (.ireturn, 1) := by decide +kernel
theorem dX5_pupil_9 : decode cX5_pupil 9 = .ok (.iload_n 2, 1) := by decide +kernel
theorem dX5_pupil_10 : decode cX5_pupil 10 = .ok (.tableswitch 72 0 7 #[46, 46, 46, 46, 46, 53, 59, 65], 46) := by decide +kernel
theorem dX5_pupil_56 : decode cX5_pupil 56 = .ok (.aload_n 0, 1) := by decide +kernel
theorem dX5_pupil_57 : decode cX5_pupil 57 = .ok (.iload_n 1, 1) := by decide +kernel
theorem dX5_pupil_58 : decode cX5_pupil 58 = .ok (.iload_n 2, 1) := by decide +kernel
theorem dX5_pupil_59 : decode cX5_pupil 59 = .ok (.invokevirtual 56, 3) := by decide +kernel
theorem dX5_pupil_62 : decode cX5_pupil 62 = .ok (.ireturn, 1) := by decide +kernel
theorem dX5_pupil_63 : decode cX5_pupil 63 = .ok (.aload_n 0, 1) := by decide +kernel
theorem dX5_pupil_64 : decode cX5_pupil 64 = .ok (.iload_n 1, 1) := by decide +kernel
theorem dX5_pupil_65 : decode cX5_pupil 65 = .ok (.invokevirtual 146, 3) := by decide +kernel
theorem dX5_pupil_68 : decode cX5_pupil 68 = .ok (.ireturn, 1) := by decide +kernel
theorem dX5_pupil_69 : decode cX5_pupil 69 = .ok (.aload_n 0, 1) := by decide +kernel
theorem dX5_pupil_70 : decode cX5_pupil 70 = .ok (.iload_n 1, 1) := by decide +kernel
theorem dX5_pupil_71 : decode cX5_pupil 71 = .ok (.invokevirtual 65, 3) := by decide +kernel
theorem dX5_pupil_74 : decode cX5_pupil 74 = .ok (.ireturn, 1) := by decide +kernel
theorem dX5_pupil_75 : decode cX5_pupil 75 = .ok (.aload_n 0, 1) := by decide +kernel
theorem dX5_pupil_76 : decode cX5_pupil 76 = .ok (.iload_n 1, 1) := by decide +kernel
theorem dX5_pupil_77 : decode cX5_pupil 77 = .ok (.iconst 5, 1) := by decide +kernel
theorem dX5_pupil_78 : decode cX5_pupil 78 = .ok (.invokevirtual 56, 3) := by decide +kernel
theorem dX5_pupil_81 : decode cX5_pupil 81 = .ok (.ireturn, 1) := by decide +kernel
theorem dX5_pupil_82 : decode cX5_pupil 82 = .ok (.bipush (-2), 2) := by decide +kernel
theorem dX5_pupil_84 : decode cX5_pupil 84 = .ok (.ireturn, 1) := by decide +kernel
set_option maxRecDepth 20000 in
theorem ggX5_novelty_X5_isPupil : GoodIn wsX5_novelty wsX5_isPupil := goodIn_r _ [4, 5, 6, 3, 7] (by decide +kernel) (by decide +kernel)
set_option maxRecDepth 20000 in
theorem gX5_novelty_X5_isPupil : GoodIn wsX5_novelty (va_wsS RX5 83 yX5_isPupil wsX5_isPupil) := goodIn_app (goodIn_of _ (by decide +kernel)) ggX5_novelty_X5_isPupil
set_option maxRecDepth 20000 in
theorem ggX5_novelty_X5_isExcuse : GoodIn wsX5_novelty wsX5_isExcuse := goodIn_r _ [11, 12, 5, 6, 3, 7, 29, 30, 31, 32, 33, 34, 35, 36, 37, 38, 39, 40] (by decide +kernel) (by decide +kernel)
set_option maxRecDepth 20000 in
theorem gX5_novelty_X5_isExcuse : GoodIn wsX5_novelty (wsV RX5 79 RX5 yX5_isExcuse wsX5_isExcuse) := goodIn_app (goodIn_of _ (by decide +kernel)) ggX5_novelty_X5_isExcuse
set_option maxRecDepth 20000 in
theorem ggX5_novelty_X5_noveltyOf : GoodIn wsX5_novelty wsX5_noveltyOf := goodIn_r _ [16, 12, 17, 18, 19, 3, 20, 21, 22, 23, 24, 25, 26, 27, 28, 29, 30, 31, 32, 33, 34, 35, 36, 37, 38, 39, 40] (by decide +kernel) (by decide +kernel)
set_option maxRecDepth 20000 in
theorem gX5_novelty_X5_noveltyOf : GoodIn wsX5_novelty (wsV RX5 62 RX5 yX5_noveltyOf wsX5_noveltyOf) := goodIn_app (goodIn_of _ (by decide +kernel)) ggX5_novelty_X5_noveltyOf
theorem dX5_novelty_0 : decode cX5_novelty 0 = .ok (.iload_n 1, 1) := by decide +kernel
theorem dX5_novelty_1 : decode cX5_novelty 1 = .ok (.invokestatic 83, 3) := by decide +kernel
theorem dX5_novelty_4 : decode cX5_novelty 4 = .ok (.ifCond .eq 20, 3) := by decide +kernel
theorem dX5_novelty_7 : decode cX5_novelty 7 = .ok (.aload_n 0, 1) := by decide +kernel
theorem dX5_novelty_8 : decode cX5_novelty 8 = .ok (.iload_n 2, 1) := by decide +kernel
theorem dX5_novelty_9 : decode cX5_novelty 9 = .ok (.invokevirtual 79, 3) := by decide +kernel
theorem dX5_novelty_12 : decode cX5_novelty 12 = .ok (.ifCond .eq 12, 3) := by decide +kernel
theorem dX5_novelty_15 : decode cX5_novelty 15 = .ok (.aload_n 0, 1) := by decide +kernel
theorem dX5_novelty_16 : decode cX5_novelty 16 = .ok (.iload_n 1, 1) := by decide +kernel
theorem dX5_novelty_17 : decode cX5_novelty 17 = .ok (.iload_n 2, 1) := by decide +kernel
theorem dX5_novelty_18 : decode cX5_novelty 18 = .ok (.invokevirtual 62, 3) := by decide +kernel
theorem dX5_novelty_21 : decode cX5_novelty 21 = .ok (.goto 4, 3) := by decide +kernel
theorem dX5_novelty_24 : decode cX5_novelty 24 = .ok (.iconst (-1), 1) := by decide +kernel
theorem dX5_novelty_25 : decode cX5_novelty 25 = .ok (.ireturn, 1) := by decide +kernel
set_option maxRecDepth 20000 in
theorem ggX5_why_X5_whyNotOffer : GoodIn wsX5_why wsX5_whyNotOffer := goodIn_r _ [5, 6, 7, 4, 8, 9, 10, 11, 12, 13, 14, 15, 16, 57, 58, 59, 60, 61, 62, 63, 64, 65, 66, 67, 68] (by decide +kernel) (by decide +kernel)
set_option maxRecDepth 20000 in
theorem gX5_why_X5_whyNotOffer : GoodIn wsX5_why (wsV RX5 97 RX5 yX5_whyNotOffer wsX5_whyNotOffer) := goodIn_app (goodIn_of _ (by decide +kernel)) ggX5_why_X5_whyNotOffer
set_option maxRecDepth 20000 in
theorem ggX5_why_X5_reason : GoodIn wsX5_why wsX5_reason := goodIn_r _ [20, 16, 21, 22, 23, 4, 24, 25, 26, 27, 28, 29, 30, 31, 32, 33, 34, 35, 36, 37, 38, 39, 40, 41, 42, 43, 44, 45, 46, 47, 48, 49, 50, 51, 52, 53, 54, 55, 56, 57, 58, 59, 60, 61, 62, 63, 64, 65, 66, 67, 68] (by decide +kernel) (by decide +kernel)
set_option maxRecDepth 20000 in
theorem gX5_why_X5_reason : GoodIn wsX5_why (wsV RX5 86 RX5 yX5_reason wsX5_reason) := goodIn_app (goodIn_of _ (by decide +kernel)) ggX5_why_X5_reason
theorem dX5_why_0 : decode cX5_why 0 = .ok (.aload_n 0, 1) := by decide +kernel
theorem dX5_why_1 : decode cX5_why 1 = .ok (.iload_n 1, 1) := by decide +kernel
theorem dX5_why_2 : decode cX5_why 2 = .ok (.iload_n 2, 1) := by decide +kernel
theorem dX5_why_3 : decode cX5_why 3 = .ok (.iload_n 3, 1) := by decide +kernel
theorem dX5_why_4 : decode cX5_why 4 = .ok (.iload 4, 2) := by decide +kernel
theorem dX5_why_6 : decode cX5_why 6 = .ok (.invokevirtual 97, 3) := by decide +kernel
theorem dX5_why_9 : decode cX5_why 9 = .ok (.istore 5, 2) := by decide +kernel
theorem dX5_why_11 : decode cX5_why 11 = .ok (.iload 5, 2) := by decide +kernel
theorem dX5_why_13 : decode cX5_why 13 = .ok (.ifCond .ge 8, 3) := by decide +kernel
theorem dX5_why_16 : decode cX5_why 16 = .ok (.iload 5, 2) := by decide +kernel
theorem dX5_why_18 : decode cX5_why 18 = .ok (.goto 12, 3) := by decide +kernel
theorem dX5_why_21 : decode cX5_why 21 = .ok (.aload_n 0, 1) := by decide +kernel
theorem dX5_why_22 : decode cX5_why 22 = .ok (.iload_n 1, 1) := by decide +kernel
theorem dX5_why_23 : decode cX5_why 23 = .ok (.iload_n 2, 1) := by decide +kernel
theorem dX5_why_24 : decode cX5_why 24 = .ok (.iload_n 3, 1) := by decide +kernel
theorem dX5_why_25 : decode cX5_why 25 = .ok (.iload 4, 2) := by decide +kernel
theorem dX5_why_27 : decode cX5_why 27 = .ok (.invokevirtual 86, 3) := by decide +kernel
theorem dX5_why_30 : decode cX5_why 30 = .ok (.ireturn, 1) := by decide +kernel
set_option maxRecDepth 20000 in
theorem ggX5_weight_X5_whyNotOffer : GoodIn wsX5_weight wsX5_whyNotOffer := goodIn_r _ [5, 6, 7, 4, 8, 9, 10, 11, 12, 13, 14, 15, 16, 53, 54, 55, 56, 57, 58, 59, 60, 61, 62, 63, 64] (by decide +kernel) (by decide +kernel)
set_option maxRecDepth 20000 in
theorem gX5_weight_X5_whyNotOffer : GoodIn wsX5_weight (wsV RX5 97 RX5 yX5_whyNotOffer wsX5_whyNotOffer) := goodIn_app (goodIn_of _ (by decide +kernel)) ggX5_weight_X5_whyNotOffer
set_option maxRecDepth 20000 in
theorem ggX5_weight_X5_weightOf : GoodIn wsX5_weight wsX5_weightOf := goodIn_r _ [20, 16, 21, 22, 23, 4, 24, 25, 26, 27, 28, 29, 30, 31, 32, 33, 34, 35, 36, 37, 38, 39, 40, 41, 42, 43, 44, 45, 46, 47, 48, 49, 50, 51, 52, 53, 54, 55, 56, 57, 58, 59, 60, 61, 62, 63, 64] (by decide +kernel) (by decide +kernel)
set_option maxRecDepth 20000 in
theorem gX5_weight_X5_weightOf : GoodIn wsX5_weight (wsV RX5 71 RX5 yX5_weightOf wsX5_weightOf) := goodIn_app (goodIn_of _ (by decide +kernel)) ggX5_weight_X5_weightOf
theorem dX5_weight_0 : decode cX5_weight 0 = .ok (.aload_n 0, 1) := by decide +kernel
theorem dX5_weight_1 : decode cX5_weight 1 = .ok (.iload_n 1, 1) := by decide +kernel
theorem dX5_weight_2 : decode cX5_weight 2 = .ok (.iload_n 2, 1) := by decide +kernel
theorem dX5_weight_3 : decode cX5_weight 3 = .ok (.iload_n 3, 1) := by decide +kernel
theorem dX5_weight_4 : decode cX5_weight 4 = .ok (.iload 4, 2) := by decide +kernel
theorem dX5_weight_6 : decode cX5_weight 6 = .ok (.invokevirtual 97, 3) := by decide +kernel
theorem dX5_weight_9 : decode cX5_weight 9 = .ok (.istore 5, 2) := by decide +kernel
theorem dX5_weight_11 : decode cX5_weight 11 = .ok (.iload 5, 2) := by decide +kernel
theorem dX5_weight_13 : decode cX5_weight 13 = .ok (.ifCond .ge 8, 3) := by decide +kernel
theorem dX5_weight_16 : decode cX5_weight 16 = .ok (.iload 5, 2) := by decide +kernel
theorem dX5_weight_18 : decode cX5_weight 18 = .ok (.goto 16, 3) := by decide +kernel
theorem dX5_weight_21 : decode cX5_weight 21 = .ok (.sipush 1000, 3) := by decide +kernel
theorem dX5_weight_24 : decode cX5_weight 24 = .ok (.aload_n 0, 1) := by decide +kernel
theorem dX5_weight_25 : decode cX5_weight 25 = .ok (.iload_n 1, 1) := by decide +kernel
theorem dX5_weight_26 : decode cX5_weight 26 = .ok (.iload_n 2, 1) := by decide +kernel
theorem dX5_weight_27 : decode cX5_weight 27 = .ok (.iload_n 3, 1) := by decide +kernel
theorem dX5_weight_28 : decode cX5_weight 28 = .ok (.iload 4, 2) := by decide +kernel
theorem dX5_weight_30 : decode cX5_weight 30 = .ok (.invokevirtual 71, 3) := by decide +kernel
theorem dX5_weight_33 : decode cX5_weight 33 = .ok (.iadd, 1) := by decide +kernel
theorem dX5_weight_34 : decode cX5_weight 34 = .ok (.ireturn, 1) := by decide +kernel
set_option maxRecDepth 20000 in
theorem ggX5_sumOfPupils_X5_of : GoodIn wsX5_sumOfPupils wsX5_of := goodIn_r _ [5, 6, 7, 8, 9, 10, 11, 12, 13, 14, 15, 16, 17, 18] (by decide +kernel) (by decide +kernel)
set_option maxRecDepth 20000 in
theorem gX5_sumOfPupils_X5_of : GoodIn wsX5_sumOfPupils (wsV RX5 56 RX5 yX5_of wsX5_of) := goodIn_app (goodIn_of _ (by decide +kernel)) ggX5_sumOfPupils_X5_of
theorem dX5_sumOfPupils_0 : decode cX5_sumOfPupils 0 = .ok (.iconst 0, 1) := by decide +kernel
theorem dX5_sumOfPupils_1 : decode cX5_sumOfPupils 1 = .ok (.istore_n 2, 1) := by decide +kernel
theorem dX5_sumOfPupils_2 : decode cX5_sumOfPupils 2 = .ok (.iconst 0, 1) := by decide +kernel
theorem dX5_sumOfPupils_3 : decode cX5_sumOfPupils 3 = .ok (.istore_n 3, 1) := by decide +kernel
theorem dX5_sumOfPupils_4 : decode cX5_sumOfPupils 4 = .ok (.iload_n 3, 1) := by decide +kernel
theorem dX5_sumOfPupils_5 : decode cX5_sumOfPupils 5 = .ok (.bipush 10, 2) := by decide +kernel
theorem dX5_sumOfPupils_7 : decode cX5_sumOfPupils 7 = .ok (.if_icmp .ge 18, 3) := by decide +kernel
theorem dX5_sumOfPupils_10 : decode cX5_sumOfPupils 10 = .ok (.iload_n 2, 1) := by decide +kernel
theorem dX5_sumOfPupils_11 : decode cX5_sumOfPupils 11 = .ok (.aload_n 0, 1) := by decide +kernel
theorem dX5_sumOfPupils_12 : decode cX5_sumOfPupils 12 = .ok (.iload_n 3, 1) := by decide +kernel
theorem dX5_sumOfPupils_13 : decode cX5_sumOfPupils 13 = .ok (.iload_n 1, 1) := by decide +kernel
theorem dX5_sumOfPupils_14 : decode cX5_sumOfPupils 14 = .ok (.invokevirtual 56, 3) := by decide +kernel
theorem dX5_sumOfPupils_17 : decode cX5_sumOfPupils 17 = .ok (.iadd, 1) := by decide +kernel
theorem dX5_sumOfPupils_18 : decode cX5_sumOfPupils 18 = .ok (.istore_n 2, 1) := by decide +kernel
theorem dX5_sumOfPupils_19 : decode cX5_sumOfPupils 19 = .ok (.iinc 3 1, 3) := by decide +kernel
theorem dX5_sumOfPupils_22 : decode cX5_sumOfPupils 22 = .ok (.goto (-18), 3) := by decide +kernel
theorem dX5_sumOfPupils_25 : decode cX5_sumOfPupils 25 = .ok (.iload_n 2, 1) := by decide +kernel
theorem dX5_sumOfPupils_26 : decode cX5_sumOfPupils 26 = .ok (.ireturn, 1) := by decide +kernel
theorem dX5_grudges_0 : decode cX5_grudges 0 = .ok (.iconst 0, 1) := by decide +kernel
theorem dX5_grudges_1 : decode cX5_grudges 1 = .ok (.istore_n 1, 1) := by decide +kernel
theorem dX5_grudges_2 : decode cX5_grudges 2 = .ok (.iconst 0, 1) := by decide +kernel
theorem dX5_grudges_3 : decode cX5_grudges 3 = .ok (.istore_n 2, 1) := by decide +kernel
theorem dX5_grudges_4 : decode cX5_grudges 4 = .ok (.iload_n 2, 1) := by decide +kernel
theorem dX5_grudges_5 : decode cX5_grudges 5 = .ok (.iconst 5, 1) := by decide +kernel
theorem dX5_grudges_6 : decode cX5_grudges 6 = .ok (.if_icmp .ge 21, 3) := by decide +kernel
theorem dX5_grudges_9 : decode cX5_grudges 9 = .ok (.iload_n 1, 1) := by decide +kernel
theorem dX5_grudges_10 : decode cX5_grudges 10 = .ok (.aload_n 0, 1) := by decide +kernel
theorem dX5_grudges_11 : decode cX5_grudges 11 = .ok (.getfield 7, 3) := by decide +kernel
theorem dX5_grudges_14 : decode cX5_grudges 14 = .ok (.bipush 13, 2) := by decide +kernel
theorem dX5_grudges_16 : decode cX5_grudges 16 = .ok (.iload_n 2, 1) := by decide +kernel
theorem dX5_grudges_17 : decode cX5_grudges 17 = .ok (.iadd, 1) := by decide +kernel
theorem dX5_grudges_18 : decode cX5_grudges 18 = .ok (.iaload, 1) := by decide +kernel
theorem dX5_grudges_19 : decode cX5_grudges 19 = .ok (.iadd, 1) := by decide +kernel
theorem dX5_grudges_20 : decode cX5_grudges 20 = .ok (.istore_n 1, 1) := by decide +kernel
theorem dX5_grudges_21 : decode cX5_grudges 21 = .ok (.iinc 2 1, 3) := by decide +kernel
theorem dX5_grudges_24 : decode cX5_grudges 24 = .ok (.goto (-20), 3) := by decide +kernel
theorem dX5_grudges_27 : decode cX5_grudges 27 = .ok (.iload_n 1, 1) := by decide +kernel
theorem dX5_grudges_28 : decode cX5_grudges 28 = .ok (.ireturn, 1) := by decide +kernel
set_option maxRecDepth 20000 in
theorem ggX5_wornOut_X5_noveltyOf : GoodIn wsX5_wornOut wsX5_noveltyOf := goodIn_r _ [6, 1, 7, 8, 9, 5, 10, 11, 12, 13, 14, 15, 16, 17, 18, 19, 20, 21, 22, 23, 24, 25, 26, 27, 28, 29, 30] (by decide +kernel) (by decide +kernel)
set_option maxRecDepth 20000 in
theorem gX5_wornOut_X5_noveltyOf : GoodIn wsX5_wornOut (wsV RX5 62 RX5 yX5_noveltyOf wsX5_noveltyOf) := goodIn_app (goodIn_of _ (by decide +kernel)) ggX5_wornOut_X5_noveltyOf
theorem dX5_wornOut_0 : decode cX5_wornOut 0 = .ok (.iconst 0, 1) := by decide +kernel
theorem dX5_wornOut_1 : decode cX5_wornOut 1 = .ok (.istore_n 1, 1) := by decide +kernel
theorem dX5_wornOut_2 : decode cX5_wornOut 2 = .ok (.iconst 0, 1) := by decide +kernel
theorem dX5_wornOut_3 : decode cX5_wornOut 3 = .ok (.istore_n 2, 1) := by decide +kernel
theorem dX5_wornOut_4 : decode cX5_wornOut 4 = .ok (.iload_n 2, 1) := by decide +kernel
theorem dX5_wornOut_5 : decode cX5_wornOut 5 = .ok (.aload_n 0, 1) := by decide +kernel
theorem dX5_wornOut_6 : decode cX5_wornOut 6 = .ok (.getfield 7, 3) := by decide +kernel
theorem dX5_wornOut_9 : decode cX5_wornOut 9 = .ok (.iconst 5, 1) := by decide +kernel
theorem dX5_wornOut_10 : decode cX5_wornOut 10 = .ok (.iaload, 1) := by decide +kernel
theorem dX5_wornOut_11 : decode cX5_wornOut 11 = .ok (.if_icmp .ge 49, 3) := by decide +kernel
theorem dX5_wornOut_14 : decode cX5_wornOut 14 = .ok (.iconst 0, 1) := by decide +kernel
theorem dX5_wornOut_15 : decode cX5_wornOut 15 = .ok (.istore_n 3, 1) := by decide +kernel
theorem dX5_wornOut_16 : decode cX5_wornOut 16 = .ok (.iconst 0, 1) := by decide +kernel
theorem dX5_wornOut_17 : decode cX5_wornOut 17 = .ok (.istore 4, 2) := by decide +kernel
theorem dX5_wornOut_19 : decode cX5_wornOut 19 = .ok (.iload 4, 2) := by decide +kernel
theorem dX5_wornOut_21 : decode cX5_wornOut 21 = .ok (.bipush 10, 2) := by decide +kernel
theorem dX5_wornOut_23 : decode cX5_wornOut 23 = .ok (.if_icmp .ge 19, 3) := by decide +kernel
theorem dX5_wornOut_26 : decode cX5_wornOut 26 = .ok (.iload_n 3, 1) := by decide +kernel
theorem dX5_wornOut_27 : decode cX5_wornOut 27 = .ok (.aload_n 0, 1) := by decide +kernel
theorem dX5_wornOut_28 : decode cX5_wornOut 28 = .ok (.iload 4, 2) := by decide +kernel
theorem dX5_wornOut_30 : decode cX5_wornOut 30 = .ok (.iload_n 2, 1) := by decide +kernel
theorem dX5_wornOut_31 : decode cX5_wornOut 31 = .ok (.invokevirtual 62, 3) := by decide +kernel
theorem dX5_wornOut_34 : decode cX5_wornOut 34 = .ok (.iadd, 1) := by decide +kernel
theorem dX5_wornOut_35 : decode cX5_wornOut 35 = .ok (.istore_n 3, 1) := by decide +kernel
theorem dX5_wornOut_36 : decode cX5_wornOut 36 = .ok (.iinc 4 1, 3) := by decide +kernel
theorem dX5_wornOut_39 : decode cX5_wornOut 39 = .ok (.goto (-20), 3) := by decide +kernel
theorem dX5_wornOut_42 : decode cX5_wornOut 42 = .ok (.iload_n 1, 1) := by decide +kernel
theorem dX5_wornOut_43 : decode cX5_wornOut 43 = .ok (.iload_n 3, 1) := by decide +kernel
theorem dX5_wornOut_44 : decode cX5_wornOut 44 = .ok (.ifCond .ne 7, 3) := by decide +kernel
theorem dX5_wornOut_47 : decode cX5_wornOut 47 = .ok (.iconst 1, 1) := by decide +kernel
theorem dX5_wornOut_48 : decode cX5_wornOut 48 = .ok (.goto 4, 3) := by decide +kernel
theorem dX5_wornOut_51 : decode cX5_wornOut 51 = .ok (.iconst 0, 1) := by decide +kernel
theorem dX5_wornOut_52 : decode cX5_wornOut 52 = .ok (.iadd, 1) := by decide +kernel
theorem dX5_wornOut_53 : decode cX5_wornOut 53 = .ok (.istore_n 1, 1) := by decide +kernel
theorem dX5_wornOut_54 : decode cX5_wornOut 54 = .ok (.iinc 2 1, 3) := by decide +kernel
theorem dX5_wornOut_57 : decode cX5_wornOut 57 = .ok (.goto (-53), 3) := by decide +kernel
theorem dX5_wornOut_60 : decode cX5_wornOut 60 = .ok (.iload_n 1, 1) := by decide +kernel
theorem dX5_wornOut_61 : decode cX5_wornOut 61 = .ok (.ireturn, 1) := by decide +kernel
set_option maxRecDepth 20000 in
theorem ggX5_count_X5_sumOfPupils : GoodIn wsX5_count wsX5_sumOfPupils := goodIn_r _ [8, 9, 10, 11, 7, 12, 1, 37, 38, 39, 40, 41, 42, 43, 44, 45, 46, 47, 48] (by decide +kernel) (by decide +kernel)
set_option maxRecDepth 20000 in
theorem gX5_count_X5_sumOfPupils : GoodIn wsX5_count (wsV RX5 149 RX5 yX5_sumOfPupils wsX5_sumOfPupils) := goodIn_app (goodIn_of _ (by decide +kernel)) ggX5_count_X5_sumOfPupils
set_option maxRecDepth 20000 in
theorem ggX5_count_X5_grudges : GoodIn wsX5_count wsX5_grudges := goodIn_r _ [16, 1, 37, 38, 39, 40, 41, 42, 43, 44, 45, 46, 47, 48] (by decide +kernel) (by decide +kernel)
set_option maxRecDepth 20000 in
theorem gX5_count_X5_grudges : GoodIn wsX5_count (wsV RX5 152 RX5 yX5_grudges wsX5_grudges) := goodIn_app (goodIn_of _ (by decide +kernel)) ggX5_count_X5_grudges
set_option maxRecDepth 20000 in
theorem ggX5_count_X5_wornOut : GoodIn wsX5_count wsX5_wornOut := goodIn_r _ [20, 1, 21, 22, 23, 7, 24, 25, 26, 27, 28, 29, 30, 31, 32, 33, 34, 35, 36, 37, 38, 39, 40, 41, 42, 43, 44, 45, 46, 47, 48] (by decide +kernel) (by decide +kernel)
set_option maxRecDepth 20000 in
theorem gX5_count_X5_wornOut : GoodIn wsX5_count (wsV RX5 156 RX5 yX5_wornOut wsX5_wornOut) := goodIn_app (goodIn_of _ (by decide +kernel)) ggX5_count_X5_wornOut
theorem dX5_count_0 : decode cX5_count 0 = .ok (.iload_n 1, 1) := by decide +kernel
theorem dX5_count_1 : decode cX5_count 1 = .ok (.tableswitch 160 0 19 #[95, 95, 95, 95, 95, 95, 95, 95, 95, 95, 95, 102, 108, 114, 126, 134, 140, 145, 150, 155], 95) := by decide +kernel
theorem dX5_count_96 : decode cX5_count 96 = .ok (.aload_n 0, 1) := by decide +kernel
theorem dX5_count_97 : decode cX5_count 97 = .ok (.getfield 7, 3) := by decide +kernel
theorem dX5_count_100 : decode cX5_count 100 = .ok (.iload_n 1, 1) := by decide +kernel
theorem dX5_count_101 : decode cX5_count 101 = .ok (.iaload, 1) := by decide +kernel
theorem dX5_count_102 : decode cX5_count 102 = .ok (.ireturn, 1) := by decide +kernel
theorem dX5_count_103 : decode cX5_count 103 = .ok (.aload_n 0, 1) := by decide +kernel
theorem dX5_count_104 : decode cX5_count 104 = .ok (.iconst 1, 1) := by decide +kernel
theorem dX5_count_105 : decode cX5_count 105 = .ok (.invokevirtual 149, 3) := by decide +kernel
theorem dX5_count_108 : decode cX5_count 108 = .ok (.ireturn, 1) := by decide +kernel
theorem dX5_count_109 : decode cX5_count 109 = .ok (.aload_n 0, 1) := by decide +kernel
theorem dX5_count_110 : decode cX5_count 110 = .ok (.iconst 5, 1) := by decide +kernel
theorem dX5_count_111 : decode cX5_count 111 = .ok (.invokevirtual 149, 3) := by decide +kernel
theorem dX5_count_114 : decode cX5_count 114 = .ok (.ireturn, 1) := by decide +kernel
theorem dX5_count_115 : decode cX5_count 115 = .ok (.aload_n 0, 1) := by decide +kernel
theorem dX5_count_116 : decode cX5_count 116 = .ok (.iconst 1, 1) := by decide +kernel
theorem dX5_count_117 : decode cX5_count 117 = .ok (.invokevirtual 149, 3) := by decide +kernel
theorem dX5_count_120 : decode cX5_count 120 = .ok (.aload_n 0, 1) := by decide +kernel
theorem dX5_count_121 : decode cX5_count 121 = .ok (.iconst 5, 1) := by decide +kernel
theorem dX5_count_122 : decode cX5_count 122 = .ok (.invokevirtual 149, 3) := by decide +kernel
theorem dX5_count_125 : decode cX5_count 125 = .ok (.iadd, 1) := by decide +kernel
theorem dX5_count_126 : decode cX5_count 126 = .ok (.ireturn, 1) := by decide +kernel
theorem dX5_count_127 : decode cX5_count 127 = .ok (.aload_n 0, 1) := by decide +kernel
theorem dX5_count_128 : decode cX5_count 128 = .ok (.getfield 7, 3) := by decide +kernel
theorem dX5_count_131 : decode cX5_count 131 = .ok (.bipush 11, 2) := by decide +kernel
theorem dX5_count_133 : decode cX5_count 133 = .ok (.iaload, 1) := by decide +kernel
theorem dX5_count_134 : decode cX5_count 134 = .ok (.ireturn, 1) := by decide +kernel
theorem dX5_count_135 : decode cX5_count 135 = .ok (.aload_n 0, 1) := by decide +kernel
theorem dX5_count_136 : decode cX5_count 136 = .ok (.iconst 0, 1) := by decide +kernel
theorem dX5_count_137 : decode cX5_count 137 = .ok (.invokevirtual 149, 3) := by decide +kernel
theorem dX5_count_140 : decode cX5_count 140 = .ok (.ireturn, 1) := by decide +kernel
theorem dX5_count_141 : decode cX5_count 141 = .ok (.aload_n 0, 1) := by decide +kernel
theorem dX5_count_142 : decode cX5_count 142 = .ok (.invokevirtual 152, 3) := by decide +kernel
theorem dX5_count_145 : decode cX5_count 145 = .ok (.ireturn, 1) := by decide +kernel
theorem dX5_count_146 : decode cX5_count 146 = .ok (.aload_n 0, 1) := by decide +kernel
theorem dX5_count_147 : decode cX5_count 147 = .ok (.invokevirtual 156, 3) := by decide +kernel
theorem dX5_count_150 : decode cX5_count 150 = .ok (.ireturn, 1) := by decide +kernel
theorem dX5_count_151 : decode cX5_count 151 = .ok (.aload_n 0, 1) := by decide +kernel
theorem dX5_count_152 : decode cX5_count 152 = .ok (.getfield 105, 3) := by decide +kernel
theorem dX5_count_155 : decode cX5_count 155 = .ok (.ireturn, 1) := by decide +kernel
theorem dX5_count_156 : decode cX5_count 156 = .ok (.aload_n 0, 1) := by decide +kernel
theorem dX5_count_157 : decode cX5_count 157 = .ok (.getfield 34, 3) := by decide +kernel
theorem dX5_count_160 : decode cX5_count 160 = .ok (.ireturn, 1) := by decide +kernel
theorem dX5_count_161 : decode cX5_count 161 = .ok (.bipush (-2), 2) := by decide +kernel
theorem dX5_count_163 : decode cX5_count 163 = .ok (.ireturn, 1) := by decide +kernel
set_option maxRecDepth 20000 in
theorem ggX5_bestExcuse_X5_isPupil : GoodIn wsX5_bestExcuse wsX5_isPupil := goodIn_r _ [5, 6, 7, 4, 8] (by decide +kernel) (by decide +kernel)
set_option maxRecDepth 20000 in
theorem gX5_bestExcuse_X5_isPupil : GoodIn wsX5_bestExcuse (va_wsS RX5 83 yX5_isPupil wsX5_isPupil) := goodIn_app (goodIn_of _ (by decide +kernel)) ggX5_bestExcuse_X5_isPupil
set_option maxRecDepth 20000 in
theorem ggX5_bestExcuse_X5_in : GoodIn wsX5_bestExcuse wsX5_in := goodIn_r _ [8] (by decide +kernel) (by decide +kernel)
set_option maxRecDepth 20000 in
theorem gX5_bestExcuse_X5_in : GoodIn wsX5_bestExcuse (va_wsS RX5 30 yX5_in wsX5_in) := goodIn_app (goodIn_of _ (by decide +kernel)) ggX5_bestExcuse_X5_in
set_option maxRecDepth 20000 in
theorem ggX5_bestExcuse_X5_reason : GoodIn wsX5_bestExcuse wsX5_reason := goodIn_r _ [12, 1, 13, 14, 15, 4, 16, 17, 18, 19, 20, 21, 22, 23, 24, 25, 26, 27, 28, 29, 30, 31, 32, 33, 34, 35, 36, 37, 38, 39, 40, 41, 42, 43, 44, 45, 46, 47, 48, 49, 50, 51, 52, 53, 54, 55, 56, 57, 58, 59, 60] (by decide +kernel) (by decide +kernel)
set_option maxRecDepth 20000 in
theorem gX5_bestExcuse_X5_reason : GoodIn wsX5_bestExcuse (wsV RX5 86 RX5 yX5_reason wsX5_reason) := goodIn_app (goodIn_of _ (by decide +kernel)) ggX5_bestExcuse_X5_reason
set_option maxRecDepth 20000 in
theorem ggX5_bestExcuse_X5_weightOf : GoodIn wsX5_bestExcuse wsX5_weightOf := goodIn_r _ [28, 1, 21, 22, 23, 4, 24, 29, 30, 31, 32, 33, 34, 35, 36, 13, 14, 15, 16, 37, 38, 39, 40, 41, 42, 43, 44, 45, 46, 47, 48, 17, 18, 19, 20, 49, 50, 51, 52, 53, 54, 55, 56, 57, 58, 59, 60] (by decide +kernel) (by decide +kernel)
set_option maxRecDepth 20000 in
theorem gX5_bestExcuse_X5_weightOf : GoodIn wsX5_bestExcuse (wsV RX5 71 RX5 yX5_weightOf wsX5_weightOf) := goodIn_app (goodIn_of _ (by decide +kernel)) ggX5_bestExcuse_X5_weightOf
theorem dX5_bestExcuse_0 : decode cX5_bestExcuse 0 = .ok (.iload_n 1, 1) := by decide +kernel
theorem dX5_bestExcuse_1 : decode cX5_bestExcuse 1 = .ok (.invokestatic 83, 3) := by decide +kernel
theorem dX5_bestExcuse_4 : decode cX5_bestExcuse 4 = .ok (.ifCond .eq 13, 3) := by decide +kernel
theorem dX5_bestExcuse_7 : decode cX5_bestExcuse 7 = .ok (.iload_n 2, 1) := by decide +kernel
theorem dX5_bestExcuse_8 : decode cX5_bestExcuse 8 = .ok (.iconst 1, 1) := by decide +kernel
theorem dX5_bestExcuse_9 : decode cX5_bestExcuse 9 = .ok (.bipush 99, 2) := by decide +kernel
theorem dX5_bestExcuse_11 : decode cX5_bestExcuse 11 = .ok (.invokestatic 30, 3) := by decide +kernel
theorem dX5_bestExcuse_14 : decode cX5_bestExcuse 14 = .ok (.ifCond .ne 17, 3) := by decide +kernel
theorem dX5_bestExcuse_17 : decode cX5_bestExcuse 17 = .ok (.iload_n 1, 1) := by decide +kernel
theorem dX5_bestExcuse_18 : decode cX5_bestExcuse 18 = .ok (.invokestatic 83, 3) := by decide +kernel
theorem dX5_bestExcuse_21 : decode cX5_bestExcuse 21 = .ok (.ifCond .eq 8, 3) := by decide +kernel
theorem dX5_bestExcuse_24 : decode cX5_bestExcuse 24 = .ok (.bipush (-2), 2) := by decide +kernel
theorem dX5_bestExcuse_26 : decode cX5_bestExcuse 26 = .ok (.goto 4, 3) := by decide +kernel
theorem dX5_bestExcuse_29 : decode cX5_bestExcuse 29 = .ok (.iconst (-1), 1) := by decide +kernel
theorem dX5_bestExcuse_30 : decode cX5_bestExcuse 30 = .ok (.ireturn, 1) := by decide +kernel
theorem dX5_bestExcuse_31 : decode cX5_bestExcuse 31 = .ok (.bipush (-6), 2) := by decide +kernel
theorem dX5_bestExcuse_33 : decode cX5_bestExcuse 33 = .ok (.istore_n 3, 1) := by decide +kernel
theorem dX5_bestExcuse_34 : decode cX5_bestExcuse 34 = .ok (.iconst 0, 1) := by decide +kernel
theorem dX5_bestExcuse_35 : decode cX5_bestExcuse 35 = .ok (.istore 4, 2) := by decide +kernel
theorem dX5_bestExcuse_37 : decode cX5_bestExcuse 37 = .ok (.iload 4, 2) := by decide +kernel
theorem dX5_bestExcuse_39 : decode cX5_bestExcuse 39 = .ok (.aload_n 0, 1) := by decide +kernel
theorem dX5_bestExcuse_40 : decode cX5_bestExcuse 40 = .ok (.getfield 7, 3) := by decide +kernel
theorem dX5_bestExcuse_43 : decode cX5_bestExcuse 43 = .ok (.iconst 5, 1) := by decide +kernel
theorem dX5_bestExcuse_44 : decode cX5_bestExcuse 44 = .ok (.iaload, 1) := by decide +kernel
theorem dX5_bestExcuse_45 : decode cX5_bestExcuse 45 = .ok (.if_icmp .ge 69, 3) := by decide +kernel
theorem dX5_bestExcuse_48 : decode cX5_bestExcuse 48 = .ok (.aload_n 0, 1) := by decide +kernel
theorem dX5_bestExcuse_49 : decode cX5_bestExcuse 49 = .ok (.iload_n 1, 1) := by decide +kernel
theorem dX5_bestExcuse_50 : decode cX5_bestExcuse 50 = .ok (.iload 4, 2) := by decide +kernel
theorem dX5_bestExcuse_52 : decode cX5_bestExcuse 52 = .ok (.bipush (-6), 2) := by decide +kernel
theorem dX5_bestExcuse_54 : decode cX5_bestExcuse 54 = .ok (.iload_n 2, 1) := by decide +kernel
theorem dX5_bestExcuse_55 : decode cX5_bestExcuse 55 = .ok (.invokevirtual 86, 3) := by decide +kernel
theorem dX5_bestExcuse_58 : decode cX5_bestExcuse 58 = .ok (.ifCond .ne 7, 3) := by decide +kernel
theorem dX5_bestExcuse_61 : decode cX5_bestExcuse 61 = .ok (.iconst 1, 1) := by decide +kernel
theorem dX5_bestExcuse_62 : decode cX5_bestExcuse 62 = .ok (.goto 4, 3) := by decide +kernel
theorem dX5_bestExcuse_65 : decode cX5_bestExcuse 65 = .ok (.iconst 0, 1) := by decide +kernel
theorem dX5_bestExcuse_66 : decode cX5_bestExcuse 66 = .ok (.istore 5, 2) := by decide +kernel
theorem dX5_bestExcuse_68 : decode cX5_bestExcuse 68 = .ok (.iload 5, 2) := by decide +kernel
theorem dX5_bestExcuse_70 : decode cX5_bestExcuse 70 = .ok (.ifCond .eq 36, 3) := by decide +kernel
theorem dX5_bestExcuse_73 : decode cX5_bestExcuse 73 = .ok (.iload_n 3, 1) := by decide +kernel
theorem dX5_bestExcuse_74 : decode cX5_bestExcuse 74 = .ok (.bipush (-6), 2) := by decide +kernel
theorem dX5_bestExcuse_76 : decode cX5_bestExcuse 76 = .ok (.if_icmp .eq 25, 3) := by decide +kernel
theorem dX5_bestExcuse_79 : decode cX5_bestExcuse 79 = .ok (.aload_n 0, 1) := by decide +kernel
theorem dX5_bestExcuse_80 : decode cX5_bestExcuse 80 = .ok (.iload_n 1, 1) := by decide +kernel
theorem dX5_bestExcuse_81 : decode cX5_bestExcuse 81 = .ok (.iload 4, 2) := by decide +kernel
theorem dX5_bestExcuse_83 : decode cX5_bestExcuse 83 = .ok (.bipush (-6), 2) := by decide +kernel
theorem dX5_bestExcuse_85 : decode cX5_bestExcuse 85 = .ok (.iload_n 2, 1) := by decide +kernel
theorem dX5_bestExcuse_86 : decode cX5_bestExcuse 86 = .ok (.invokevirtual 71, 3) := by decide +kernel
theorem dX5_bestExcuse_89 : decode cX5_bestExcuse 89 = .ok (.aload_n 0, 1) := by decide +kernel
theorem dX5_bestExcuse_90 : decode cX5_bestExcuse 90 = .ok (.iload_n 1, 1) := by decide +kernel
theorem dX5_bestExcuse_91 : decode cX5_bestExcuse 91 = .ok (.iload_n 3, 1) := by decide +kernel
theorem dX5_bestExcuse_92 : decode cX5_bestExcuse 92 = .ok (.bipush (-6), 2) := by decide +kernel
theorem dX5_bestExcuse_94 : decode cX5_bestExcuse 94 = .ok (.iload_n 2, 1) := by decide +kernel
theorem dX5_bestExcuse_95 : decode cX5_bestExcuse 95 = .ok (.invokevirtual 71, 3) := by decide +kernel
theorem dX5_bestExcuse_98 : decode cX5_bestExcuse 98 = .ok (.if_icmp .le 8, 3) := by decide +kernel
theorem dX5_bestExcuse_101 : decode cX5_bestExcuse 101 = .ok (.iload 4, 2) := by decide +kernel
theorem dX5_bestExcuse_103 : decode cX5_bestExcuse 103 = .ok (.goto 4, 3) := by decide +kernel
theorem dX5_bestExcuse_106 : decode cX5_bestExcuse 106 = .ok (.iload_n 3, 1) := by decide +kernel
theorem dX5_bestExcuse_107 : decode cX5_bestExcuse 107 = .ok (.istore_n 3, 1) := by decide +kernel
theorem dX5_bestExcuse_108 : decode cX5_bestExcuse 108 = .ok (.iinc 4 1, 3) := by decide +kernel
theorem dX5_bestExcuse_111 : decode cX5_bestExcuse 111 = .ok (.goto (-74), 3) := by decide +kernel
theorem dX5_bestExcuse_114 : decode cX5_bestExcuse 114 = .ok (.iload_n 3, 1) := by decide +kernel
theorem dX5_bestExcuse_115 : decode cX5_bestExcuse 115 = .ok (.ireturn, 1) := by decide +kernel
set_option maxRecDepth 20000 in
theorem ggX5_bestWitness_X5_isPupil : GoodIn wsX5_bestWitness wsX5_isPupil := goodIn_r _ [4, 5, 6, 3, 7] (by decide +kernel) (by decide +kernel)
set_option maxRecDepth 20000 in
theorem gX5_bestWitness_X5_isPupil : GoodIn wsX5_bestWitness (va_wsS RX5 83 yX5_isPupil wsX5_isPupil) := goodIn_app (goodIn_of _ (by decide +kernel)) ggX5_bestWitness_X5_isPupil
set_option maxRecDepth 20000 in
theorem ggX5_bestWitness_X5_isExcuse : GoodIn wsX5_bestWitness wsX5_isExcuse := goodIn_r _ [11, 12, 5, 6, 3, 7, 21, 22, 23, 24, 25, 26, 27, 28, 29, 30, 31, 32] (by decide +kernel) (by decide +kernel)
set_option maxRecDepth 20000 in
theorem gX5_bestWitness_X5_isExcuse : GoodIn wsX5_bestWitness (wsV RX5 79 RX5 yX5_isExcuse wsX5_isExcuse) := goodIn_app (goodIn_of _ (by decide +kernel)) ggX5_bestWitness_X5_isExcuse
set_option maxRecDepth 20000 in
theorem ggX5_bestWitness_X5_in : GoodIn wsX5_bestWitness wsX5_in := goodIn_r _ [7] (by decide +kernel) (by decide +kernel)
set_option maxRecDepth 20000 in
theorem gX5_bestWitness_X5_in : GoodIn wsX5_bestWitness (va_wsS RX5 30 yX5_in wsX5_in) := goodIn_app (goodIn_of _ (by decide +kernel)) ggX5_bestWitness_X5_in
set_option maxRecDepth 20000 in
theorem ggX5_bestWitness_X5_of : GoodIn wsX5_bestWitness wsX5_of := goodIn_r _ [16, 12, 21, 22, 23, 24, 25, 26, 27, 28, 29, 30, 31, 32] (by decide +kernel) (by decide +kernel)
set_option maxRecDepth 20000 in
theorem gX5_bestWitness_X5_of : GoodIn wsX5_bestWitness (wsV RX5 56 RX5 yX5_of wsX5_of) := goodIn_app (goodIn_of _ (by decide +kernel)) ggX5_bestWitness_X5_of
set_option maxRecDepth 20000 in
theorem ggX5_bestWitness_X5_standsBy : GoodIn wsX5_bestWitness wsX5_standsBy := goodIn_r _ [20, 13, 14, 15, 3, 16, 12, 21, 22, 23, 24, 25, 26, 27, 28, 29, 30, 31, 32] (by decide +kernel) (by decide +kernel)
set_option maxRecDepth 20000 in
theorem gX5_bestWitness_X5_standsBy : GoodIn wsX5_bestWitness (wsV RX5 68 RX5 yX5_standsBy wsX5_standsBy) := goodIn_app (goodIn_of _ (by decide +kernel)) ggX5_bestWitness_X5_standsBy
theorem dX5_bestWitness_0 : decode cX5_bestWitness 0 = .ok (.iload_n 1, 1) := by decide +kernel
theorem dX5_bestWitness_1 : decode cX5_bestWitness 1 = .ok (.invokestatic 83, 3) := by decide +kernel
theorem dX5_bestWitness_4 : decode cX5_bestWitness 4 = .ok (.ifCond .eq 11, 3) := by decide +kernel
theorem dX5_bestWitness_7 : decode cX5_bestWitness 7 = .ok (.aload_n 0, 1) := by decide +kernel
theorem dX5_bestWitness_8 : decode cX5_bestWitness 8 = .ok (.iload_n 2, 1) := by decide +kernel
theorem dX5_bestWitness_9 : decode cX5_bestWitness 9 = .ok (.invokevirtual 79, 3) := by decide +kernel
theorem dX5_bestWitness_12 : decode cX5_bestWitness 12 = .ok (.ifCond .ne 5, 3) := by decide +kernel
theorem dX5_bestWitness_15 : decode cX5_bestWitness 15 = .ok (.iconst (-1), 1) := by decide +kernel
theorem dX5_bestWitness_16 : decode cX5_bestWitness 16 = .ok (.ireturn, 1) := by decide +kernel
theorem dX5_bestWitness_17 : decode cX5_bestWitness 17 = .ok (.iload_n 3, 1) := by decide +kernel
theorem dX5_bestWitness_18 : decode cX5_bestWitness 18 = .ok (.iconst 1, 1) := by decide +kernel
theorem dX5_bestWitness_19 : decode cX5_bestWitness 19 = .ok (.bipush 99, 2) := by decide +kernel
theorem dX5_bestWitness_21 : decode cX5_bestWitness 21 = .ok (.invokestatic 30, 3) := by decide +kernel
theorem dX5_bestWitness_24 : decode cX5_bestWitness 24 = .ok (.ifCond .ne 6, 3) := by decide +kernel
theorem dX5_bestWitness_27 : decode cX5_bestWitness 27 = .ok (.bipush (-2), 2) := by decide +kernel
theorem dX5_bestWitness_29 : decode cX5_bestWitness 29 = .ok (.ireturn, 1) := by decide +kernel
theorem dX5_bestWitness_30 : decode cX5_bestWitness 30 = .ok (.bipush (-6), 2) := by decide +kernel
theorem dX5_bestWitness_32 : decode cX5_bestWitness 32 = .ok (.istore 4, 2) := by decide +kernel
theorem dX5_bestWitness_34 : decode cX5_bestWitness 34 = .ok (.iconst 0, 1) := by decide +kernel
theorem dX5_bestWitness_35 : decode cX5_bestWitness 35 = .ok (.istore 5, 2) := by decide +kernel
theorem dX5_bestWitness_37 : decode cX5_bestWitness 37 = .ok (.iload 5, 2) := by decide +kernel
theorem dX5_bestWitness_39 : decode cX5_bestWitness 39 = .ok (.bipush 10, 2) := by decide +kernel
theorem dX5_bestWitness_41 : decode cX5_bestWitness 41 = .ok (.if_icmp .ge 70, 3) := by decide +kernel
theorem dX5_bestWitness_44 : decode cX5_bestWitness 44 = .ok (.iload 5, 2) := by decide +kernel
theorem dX5_bestWitness_46 : decode cX5_bestWitness 46 = .ok (.iload_n 1, 1) := by decide +kernel
theorem dX5_bestWitness_47 : decode cX5_bestWitness 47 = .ok (.if_icmp .eq 17, 3) := by decide +kernel
theorem dX5_bestWitness_50 : decode cX5_bestWitness 50 = .ok (.aload_n 0, 1) := by decide +kernel
theorem dX5_bestWitness_51 : decode cX5_bestWitness 51 = .ok (.iload 5, 2) := by decide +kernel
theorem dX5_bestWitness_53 : decode cX5_bestWitness 53 = .ok (.iconst 0, 1) := by decide +kernel
theorem dX5_bestWitness_54 : decode cX5_bestWitness 54 = .ok (.invokevirtual 56, 3) := by decide +kernel
theorem dX5_bestWitness_57 : decode cX5_bestWitness 57 = .ok (.ifCond .le 7, 3) := by decide +kernel
theorem dX5_bestWitness_60 : decode cX5_bestWitness 60 = .ok (.iconst 1, 1) := by decide +kernel
theorem dX5_bestWitness_61 : decode cX5_bestWitness 61 = .ok (.goto 4, 3) := by decide +kernel
theorem dX5_bestWitness_64 : decode cX5_bestWitness 64 = .ok (.iconst 0, 1) := by decide +kernel
theorem dX5_bestWitness_65 : decode cX5_bestWitness 65 = .ok (.istore 6, 2) := by decide +kernel
theorem dX5_bestWitness_67 : decode cX5_bestWitness 67 = .ok (.iload 6, 2) := by decide +kernel
theorem dX5_bestWitness_69 : decode cX5_bestWitness 69 = .ok (.ifCond .eq 32, 3) := by decide +kernel
theorem dX5_bestWitness_72 : decode cX5_bestWitness 72 = .ok (.iload 4, 2) := by decide +kernel
theorem dX5_bestWitness_74 : decode cX5_bestWitness 74 = .ok (.bipush (-6), 2) := by decide +kernel
theorem dX5_bestWitness_76 : decode cX5_bestWitness 76 = .ok (.if_icmp .eq 20, 3) := by decide +kernel
theorem dX5_bestWitness_79 : decode cX5_bestWitness 79 = .ok (.aload_n 0, 1) := by decide +kernel
theorem dX5_bestWitness_80 : decode cX5_bestWitness 80 = .ok (.iload 5, 2) := by decide +kernel
theorem dX5_bestWitness_82 : decode cX5_bestWitness 82 = .ok (.iload_n 1, 1) := by decide +kernel
theorem dX5_bestWitness_83 : decode cX5_bestWitness 83 = .ok (.invokevirtual 68, 3) := by decide +kernel
theorem dX5_bestWitness_86 : decode cX5_bestWitness 86 = .ok (.aload_n 0, 1) := by decide +kernel
theorem dX5_bestWitness_87 : decode cX5_bestWitness 87 = .ok (.iload 4, 2) := by decide +kernel
theorem dX5_bestWitness_89 : decode cX5_bestWitness 89 = .ok (.iload_n 1, 1) := by decide +kernel
theorem dX5_bestWitness_90 : decode cX5_bestWitness 90 = .ok (.invokevirtual 68, 3) := by decide +kernel
theorem dX5_bestWitness_93 : decode cX5_bestWitness 93 = .ok (.if_icmp .le 8, 3) := by decide +kernel
theorem dX5_bestWitness_96 : decode cX5_bestWitness 96 = .ok (.iload 5, 2) := by decide +kernel
theorem dX5_bestWitness_98 : decode cX5_bestWitness 98 = .ok (.goto 5, 3) := by decide +kernel
theorem dX5_bestWitness_101 : decode cX5_bestWitness 101 = .ok (.iload 4, 2) := by decide +kernel
theorem dX5_bestWitness_103 : decode cX5_bestWitness 103 = .ok (.istore 4, 2) := by decide +kernel
theorem dX5_bestWitness_105 : decode cX5_bestWitness 105 = .ok (.iinc 5 1, 3) := by decide +kernel
theorem dX5_bestWitness_108 : decode cX5_bestWitness 108 = .ok (.goto (-71), 3) := by decide +kernel
theorem dX5_bestWitness_111 : decode cX5_bestWitness 111 = .ok (.iload 4, 2) := by decide +kernel
theorem dX5_bestWitness_113 : decode cX5_bestWitness 113 = .ok (.ireturn, 1) := by decide +kernel
set_option maxRecDepth 20000 in
theorem ggX5_mostMinutes_X5_isPupil : GoodIn wsX5_mostMinutes wsX5_isPupil := goodIn_r _ [4, 5, 6, 3, 7] (by decide +kernel) (by decide +kernel)
set_option maxRecDepth 20000 in
theorem gX5_mostMinutes_X5_isPupil : GoodIn wsX5_mostMinutes (va_wsS RX5 83 yX5_isPupil wsX5_isPupil) := goodIn_app (goodIn_of _ (by decide +kernel)) ggX5_mostMinutes_X5_isPupil
set_option maxRecDepth 20000 in
theorem ggX5_mostMinutes_X5_isExcuse : GoodIn wsX5_mostMinutes wsX5_isExcuse := goodIn_r _ [11, 12, 5, 6, 3, 7, 53, 54, 55, 56, 57, 58, 59, 60, 61, 62, 63, 64] (by decide +kernel) (by decide +kernel)
set_option maxRecDepth 20000 in
theorem gX5_mostMinutes_X5_isExcuse : GoodIn wsX5_mostMinutes (wsV RX5 79 RX5 yX5_isExcuse wsX5_isExcuse) := goodIn_app (goodIn_of _ (by decide +kernel)) ggX5_mostMinutes_X5_isExcuse
set_option maxRecDepth 20000 in
theorem ggX5_mostMinutes_X5_reason : GoodIn wsX5_mostMinutes wsX5_reason := goodIn_r _ [16, 12, 17, 18, 19, 3, 20, 21, 22, 23, 24, 25, 26, 27, 28, 29, 30, 31, 32, 33, 34, 35, 36, 37, 38, 39, 40, 41, 42, 43, 44, 45, 46, 47, 48, 49, 50, 51, 52, 53, 54, 55, 56, 57, 58, 59, 60, 61, 62, 63, 64] (by decide +kernel) (by decide +kernel)
set_option maxRecDepth 20000 in
theorem gX5_mostMinutes_X5_reason : GoodIn wsX5_mostMinutes (wsV RX5 86 RX5 yX5_reason wsX5_reason) := goodIn_app (goodIn_of _ (by decide +kernel)) ggX5_mostMinutes_X5_reason
theorem dX5_mostMinutes_0 : decode cX5_mostMinutes 0 = .ok (.iload_n 1, 1) := by decide +kernel
theorem dX5_mostMinutes_1 : decode cX5_mostMinutes 1 = .ok (.invokestatic 83, 3) := by decide +kernel
theorem dX5_mostMinutes_4 : decode cX5_mostMinutes 4 = .ok (.ifCond .eq 11, 3) := by decide +kernel
theorem dX5_mostMinutes_7 : decode cX5_mostMinutes 7 = .ok (.aload_n 0, 1) := by decide +kernel
theorem dX5_mostMinutes_8 : decode cX5_mostMinutes 8 = .ok (.iload_n 2, 1) := by decide +kernel
theorem dX5_mostMinutes_9 : decode cX5_mostMinutes 9 = .ok (.invokevirtual 79, 3) := by decide +kernel
theorem dX5_mostMinutes_12 : decode cX5_mostMinutes 12 = .ok (.ifCond .ne 5, 3) := by decide +kernel
theorem dX5_mostMinutes_15 : decode cX5_mostMinutes 15 = .ok (.iconst (-1), 1) := by decide +kernel
theorem dX5_mostMinutes_16 : decode cX5_mostMinutes 16 = .ok (.ireturn, 1) := by decide +kernel
theorem dX5_mostMinutes_17 : decode cX5_mostMinutes 17 = .ok (.bipush 99, 2) := by decide +kernel
theorem dX5_mostMinutes_19 : decode cX5_mostMinutes 19 = .ok (.istore_n 3, 1) := by decide +kernel
theorem dX5_mostMinutes_20 : decode cX5_mostMinutes 20 = .ok (.iload_n 3, 1) := by decide +kernel
theorem dX5_mostMinutes_21 : decode cX5_mostMinutes 21 = .ok (.ifCond .le 21, 3) := by decide +kernel
theorem dX5_mostMinutes_24 : decode cX5_mostMinutes 24 = .ok (.aload_n 0, 1) := by decide +kernel
theorem dX5_mostMinutes_25 : decode cX5_mostMinutes 25 = .ok (.iload_n 1, 1) := by decide +kernel
theorem dX5_mostMinutes_26 : decode cX5_mostMinutes 26 = .ok (.iload_n 2, 1) := by decide +kernel
theorem dX5_mostMinutes_27 : decode cX5_mostMinutes 27 = .ok (.bipush (-6), 2) := by decide +kernel
theorem dX5_mostMinutes_29 : decode cX5_mostMinutes 29 = .ok (.iload_n 3, 1) := by decide +kernel
theorem dX5_mostMinutes_30 : decode cX5_mostMinutes 30 = .ok (.invokevirtual 86, 3) := by decide +kernel
theorem dX5_mostMinutes_33 : decode cX5_mostMinutes 33 = .ok (.ifCond .le 9, 3) := by decide +kernel
theorem dX5_mostMinutes_36 : decode cX5_mostMinutes 36 = .ok (.iinc 3 (-1), 3) := by decide +kernel
theorem dX5_mostMinutes_39 : decode cX5_mostMinutes 39 = .ok (.goto (-19), 3) := by decide +kernel
theorem dX5_mostMinutes_42 : decode cX5_mostMinutes 42 = .ok (.iload_n 3, 1) := by decide +kernel
theorem dX5_mostMinutes_43 : decode cX5_mostMinutes 43 = .ok (.ifCond .ne 8, 3) := by decide +kernel
theorem dX5_mostMinutes_46 : decode cX5_mostMinutes 46 = .ok (.bipush (-6), 2) := by decide +kernel
theorem dX5_mostMinutes_48 : decode cX5_mostMinutes 48 = .ok (.goto 4, 3) := by decide +kernel
theorem dX5_mostMinutes_51 : decode cX5_mostMinutes 51 = .ok (.iload_n 3, 1) := by decide +kernel
theorem dX5_mostMinutes_52 : decode cX5_mostMinutes 52 = .ok (.ireturn, 1) := by decide +kernel
